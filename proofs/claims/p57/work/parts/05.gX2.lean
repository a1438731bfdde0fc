set_option maxRecDepth 20000 in
theorem ggX5_canEnter_X4_nextBlock : GoodIn wsX5_canEnter wsX4_nextBlock := goodIn_r _ [15, 16, 35, 36, 37, 38, 39, 40, 41, 42, 43, 44, 45, 46, 47, 48, 49, 50, 51] (by decide +kernel) (by decide +kernel)
set_option maxRecDepth 20000 in
theorem gX5_canEnter_X4_nextBlock : GoodIn wsX5_canEnter (wsV RX5 184 RX4 yX4_nextBlock wsX4_nextBlock) := goodIn_app (goodIn_of _ (by decide +kernel)) ggX5_canEnter_X4_nextBlock
set_option maxRecDepth 20000 in
theorem ggX5_canEnter_X4_opensTo : GoodIn wsX5_canEnter wsX4_opensTo := goodIn_r _ [20, 21, 22, 23, 24, 14, 25, 26, 27, 35, 36, 37, 38, 39, 40, 41, 42, 43, 44, 45, 46, 47, 48, 49, 50, 51] (by decide +kernel) (by decide +kernel)
set_option maxRecDepth 20000 in
theorem gX5_canEnter_X4_opensTo : GoodIn wsX5_canEnter (wsV RX5 187 RX4 yX4_opensTo wsX4_opensTo) := goodIn_app (goodIn_of _ (by decide +kernel)) ggX5_canEnter_X4_opensTo
set_option maxRecDepth 20000 in
theorem ggX5_blockAfter_X5_requireTrain : GoodIn wsX5_blockAfter wsX5_requireTrain := goodIn_ca (goodIn_r _ [10, 11, 12, 4, 13, 76, 77, 78, 79, 80, 81, 82, 83, 84, 85, 86, 87, 88, 89, 90, 91, 92, 93, 94, 95, 96, 97, 98, 99] (by decide +kernel) (by decide +kernel)) (goodIn_sub (fun _ h => List.mem_cons_of_mem _ (List.mem_append_right _ h)) (by decide +kernel))
set_option maxRecDepth 20000 in
theorem gX5_blockAfter_X5_requireTrain : GoodIn wsX5_blockAfter (wsV RX5 163 RX5 yX5_requireTrain wsX5_requireTrain) := goodIn_app (goodIn_of _ (by decide +kernel)) ggX5_blockAfter_X5_requireTrain
set_option maxRecDepth 20000 in
theorem ggX5_blockAfter_X4_copyFrom : GoodIn wsX5_blockAfter wsX4_copyFrom := goodIn_r _ [18, 19, 20, 21, 22, 23, 24, 25, 26, 27, 28, 29, 30, 31, 32, 33, 34, 35, 36, 37, 38, 39, 83, 84, 85, 86, 87, 88, 89, 90, 91, 92, 93, 94, 95, 96, 97, 98, 99] (by decide +kernel) (by decide +kernel)
set_option maxRecDepth 20000 in
theorem gX5_blockAfter_X4_copyFrom : GoodIn wsX5_blockAfter (wsV RX5 69 RX4 yX4_copyFrom wsX4_copyFrom) := goodIn_app (goodIn_of _ (by decide +kernel)) ggX5_blockAfter_X4_copyFrom
set_option maxRecDepth 20000 in
theorem ggX5_blockAfter_X4_pass : GoodIn wsX5_blockAfter wsX4_pass := goodIn_r _ [43, 19, 21, 44, 45, 46, 17, 47, 34, 35, 24, 48, 49, 50, 51, 38, 33, 31, 52, 53, 54, 55, 37, 56, 57, 58, 59, 30, 60, 61, 62, 63, 20, 64, 65, 66, 67, 68, 69, 70, 71, 32, 72, 73, 74, 75, 29, 36, 39, 83, 84, 85, 86, 87, 88, 89, 90, 91, 92, 93, 94, 95, 96, 97, 98, 99] (by decide +kernel) (by decide +kernel)
set_option maxRecDepth 20000 in
theorem gX5_blockAfter_X4_pass : GoodIn wsX5_blockAfter (wsV RX5 192 RX4 yX4_pass wsX4_pass) := goodIn_app (goodIn_of _ (by decide +kernel)) ggX5_blockAfter_X4_pass
set_option maxRecDepth 20000 in
theorem ggX5_ticksUntilWait_X5_requireTrain : GoodIn wsX5_ticksUntilWait wsX5_requireTrain := goodIn_ca (goodIn_r _ [8, 9, 10, 2, 11, 74, 75, 76, 77, 78, 79, 80, 81, 82, 83, 84, 85, 86, 87, 88, 89, 90, 91, 92, 93, 94, 95, 96, 97] (by decide +kernel) (by decide +kernel)) (goodIn_sub (fun _ h => List.mem_cons_of_mem _ (List.mem_append_right _ h)) (by decide +kernel))
set_option maxRecDepth 20000 in
theorem gX5_ticksUntilWait_X5_requireTrain : GoodIn wsX5_ticksUntilWait (wsV RX5 163 RX5 yX5_requireTrain wsX5_requireTrain) := goodIn_app (goodIn_of _ (by decide +kernel)) ggX5_ticksUntilWait_X5_requireTrain
set_option maxRecDepth 20000 in
theorem ggX5_ticksUntilWait_X4_copyFrom : GoodIn wsX5_ticksUntilWait wsX4_copyFrom := goodIn_r _ [16, 17, 18, 19, 20, 21, 22, 23, 24, 25, 26, 27, 28, 29, 30, 31, 32, 33, 34, 35, 36, 37, 81, 82, 83, 84, 85, 86, 87, 88, 89, 90, 91, 92, 93, 94, 95, 96, 97] (by decide +kernel) (by decide +kernel)
set_option maxRecDepth 20000 in
theorem gX5_ticksUntilWait_X4_copyFrom : GoodIn wsX5_ticksUntilWait (wsV RX5 69 RX4 yX4_copyFrom wsX4_copyFrom) := goodIn_app (goodIn_of _ (by decide +kernel)) ggX5_ticksUntilWait_X4_copyFrom
set_option maxRecDepth 20000 in
theorem ggX5_ticksUntilWait_X4_pass : GoodIn wsX5_ticksUntilWait wsX4_pass := goodIn_r _ [41, 17, 19, 42, 43, 44, 15, 45, 32, 33, 22, 46, 47, 48, 49, 36, 31, 29, 50, 51, 52, 53, 35, 54, 55, 56, 57, 28, 58, 59, 60, 61, 18, 62, 63, 64, 65, 66, 67, 68, 69, 30, 70, 71, 72, 73, 27, 34, 37, 81, 82, 83, 84, 85, 86, 87, 88, 89, 90, 91, 92, 93, 94, 95, 96, 97] (by decide +kernel) (by decide +kernel)
set_option maxRecDepth 20000 in
theorem gX5_ticksUntilWait_X4_pass : GoodIn wsX5_ticksUntilWait (wsV RX5 192 RX4 yX4_pass wsX4_pass) := goodIn_app (goodIn_of _ (by decide +kernel)) ggX5_ticksUntilWait_X4_pass
set_option maxRecDepth 20000 in
theorem ggX5_totalWagons_X4_sumOfWagons : GoodIn wsX5_totalWagons wsX4_sumOfWagons := goodIn_r _ [6, 7, 8, 16, 17, 18, 19, 20, 21, 22, 23, 24, 25, 26, 27, 28, 29, 30, 31, 32] (by decide +kernel) (by decide +kernel)
set_option maxRecDepth 20000 in
theorem gX5_totalWagons_X4_sumOfWagons : GoodIn wsX5_totalWagons (wsV RX5 195 RX4 yX4_sumOfWagons wsX4_sumOfWagons) := goodIn_app (goodIn_of _ (by decide +kernel)) ggX5_totalWagons_X4_sumOfWagons
set_option maxRecDepth 20000 in
theorem ggX5_lostWagons_X4_sumOfLost : GoodIn wsX5_lostWagons wsX4_sumOfLost := goodIn_r _ [6, 7, 8, 16, 17, 18, 19, 20, 21, 22, 23, 24, 25, 26, 27, 28, 29, 30, 31, 32] (by decide +kernel) (by decide +kernel)
set_option maxRecDepth 20000 in
theorem gX5_lostWagons_X4_sumOfLost : GoodIn wsX5_lostWagons (wsV RX5 198 RX4 yX4_sumOfLost wsX4_sumOfLost) := goodIn_app (goodIn_of _ (by decide +kernel)) ggX5_lostWagons_X4_sumOfLost
set_option maxRecDepth 20000 in
theorem ggX5_wagonDifference_X4_sumOfWagons : GoodIn wsX5_wagonDifference wsX4_sumOfWagons := goodIn_r _ [12, 13, 14, 28, 29, 30, 31, 32, 33, 34, 35, 36, 37, 38, 39, 40, 41, 42, 43, 44] (by decide +kernel) (by decide +kernel)
set_option maxRecDepth 20000 in
theorem gX5_wagonDifference_X4_sumOfWagons : GoodIn wsX5_wagonDifference (wsV RX5 195 RX4 yX4_sumOfWagons wsX4_sumOfWagons) := goodIn_app (goodIn_of _ (by decide +kernel)) ggX5_wagonDifference_X4_sumOfWagons
set_option maxRecDepth 20000 in
theorem ggX5_wagonDifference_X4_sumOfLost : GoodIn wsX5_wagonDifference wsX4_sumOfLost := goodIn_r _ [18, 19, 20, 28, 29, 30, 31, 32, 33, 34, 35, 36, 37, 38, 39, 40, 41, 42, 43, 44] (by decide +kernel) (by decide +kernel)
set_option maxRecDepth 20000 in
theorem gX5_wagonDifference_X4_sumOfLost : GoodIn wsX5_wagonDifference (wsV RX5 198 RX4 yX4_sumOfLost wsX4_sumOfLost) := goodIn_app (goodIn_of _ (by decide +kernel)) ggX5_wagonDifference_X4_sumOfLost
set_option maxRecDepth 20000 in
theorem ggX5_advance_X0_record : GoodIn wsX5_advance wsX0_record := goodIn_r _ [12, 13, 14, 15, 16, 17, 18, 19, 20, 21, 22, 23, 24, 25, 26, 27, 28, 29, 30, 31, 32, 33, 34, 35, 36, 37, 38, 39, 40, 41, 42, 43, 44, 45, 103, 104, 105, 86, 87, 88, 89, 90, 91, 92, 93, 94, 95, 96, 97, 98, 99, 100, 101, 102] (by decide +kernel) (by decide +kernel)
set_option maxRecDepth 20000 in
theorem gX5_advance_X0_record : GoodIn wsX5_advance (wsV RX5 214 RX0 yX0_record wsX0_record) := goodIn_app (goodIn_of _ (by decide +kernel)) ggX5_advance_X0_record
set_option maxRecDepth 20000 in
theorem ggX5_advance_X4_pass : GoodIn wsX5_advance wsX4_pass := goodIn_r _ [49, 25, 27, 50, 51, 52, 23, 53, 40, 41, 30, 54, 17, 18, 19, 44, 39, 37, 55, 56, 57, 58, 43, 59, 60, 61, 62, 36, 63, 64, 65, 66, 26, 67, 68, 69, 70, 71, 72, 73, 74, 38, 75, 76, 77, 78, 35, 42, 45, 86, 87, 88, 89, 90, 91, 92, 93, 94, 95, 96, 97, 98, 99, 100, 101, 102] (by decide +kernel) (by decide +kernel)
set_option maxRecDepth 20000 in
theorem gX5_advance_X4_pass : GoodIn wsX5_advance (wsV RX5 192 RX4 yX4_pass wsX4_pass) := goodIn_app (goodIn_of _ (by decide +kernel)) ggX5_advance_X4_pass
set_option maxRecDepth 20000 in
theorem ggX5_pull_X5_requireBlock : GoodIn wsX5_pull wsX5_requireBlock := goodIn_ca (goodIn_r _ [10, 11, 12, 3, 13, 72, 73, 74, 75, 76, 77, 78, 79, 80, 81, 82, 83, 84, 85, 86, 87, 88, 89, 90, 91, 92, 93, 94, 95] (by decide +kernel) (by decide +kernel)) (goodIn_sub (fun _ h => List.mem_cons_of_mem _ (List.mem_append_right _ h)) (by decide +kernel))
set_option maxRecDepth 20000 in
theorem gX5_pull_X5_requireBlock : GoodIn wsX5_pull (wsV RX5 119 RX5 yX5_requireBlock wsX5_requireBlock) := goodIn_app (goodIn_of _ (by decide +kernel)) ggX5_pull_X5_requireBlock
set_option maxRecDepth 20000 in
theorem ggX5_pull_X4_leverObstacle : GoodIn wsX5_pull wsX4_leverObstacle := goodIn_r _ [18, 19, 20, 21, 22, 23, 24, 17, 25, 26, 27, 28, 29, 30, 31, 32, 33, 34, 35, 79, 80, 81, 82, 83, 84, 85, 86, 87, 88, 89, 90, 91, 92, 93, 94, 95] (by decide +kernel) (by decide +kernel)
set_option maxRecDepth 20000 in
theorem gX5_pull_X4_leverObstacle : GoodIn wsX5_pull (wsV RX5 152 RX4 yX4_leverObstacle wsX4_leverObstacle) := goodIn_app (goodIn_of _ (by decide +kernel)) ggX5_pull_X4_leverObstacle
set_option maxRecDepth 20000 in
theorem ggX5_pull_X0_record : GoodIn wsX5_pull wsX0_record := goodIn_r _ [40, 41, 42, 43, 44, 45, 46, 47, 48, 49, 50, 17, 51, 52, 31, 53, 54, 55, 56, 57, 58, 59, 60, 61, 26, 21, 20, 19, 62, 63, 64, 65, 66, 67, 96, 97, 98, 79, 80, 81, 82, 83, 84, 85, 86, 87, 88, 89, 90, 91, 92, 93, 94, 95] (by decide +kernel) (by decide +kernel)
set_option maxRecDepth 20000 in
theorem gX5_pull_X0_record : GoodIn wsX5_pull (wsV RX5 214 RX0 yX0_record wsX0_record) := goodIn_app (goodIn_of _ (by decide +kernel)) ggX5_pull_X0_record
set_option maxRecDepth 20000 in
theorem ggX5_pull_X4_clearSignals : GoodIn wsX5_pull wsX4_clearSignals := goodIn_r _ [71, 31, 21, 79, 80, 81, 82, 83, 84, 85, 86, 87, 88, 89, 90, 91, 92, 93, 94, 95] (by decide +kernel) (by decide +kernel)
set_option maxRecDepth 20000 in
theorem gX5_pull_X4_clearSignals : GoodIn wsX5_pull (wsV RX5 219 RX4 yX4_clearSignals wsX4_clearSignals) := goodIn_app (goodIn_of _ (by decide +kernel)) ggX5_pull_X4_clearSignals
set_option maxRecDepth 20000 in
theorem ggX5_setDanger_X5_requireBlock : GoodIn wsX5_setDanger wsX5_requireBlock := goodIn_ca (goodIn_r _ [10, 11, 12, 3, 13, 56, 57, 58, 59, 60, 61, 62, 63, 64, 65, 66, 67, 68, 69, 70, 71, 72, 73, 74, 75, 76, 77, 78, 79] (by decide +kernel) (by decide +kernel)) (goodIn_sub (fun _ h => List.mem_cons_of_mem _ (List.mem_append_right _ h)) (by decide +kernel))
set_option maxRecDepth 20000 in
theorem gX5_setDanger_X5_requireBlock : GoodIn wsX5_setDanger (wsV RX5 119 RX5 yX5_requireBlock wsX5_requireBlock) := goodIn_app (goodIn_of _ (by decide +kernel)) ggX5_setDanger_X5_requireBlock
set_option maxRecDepth 20000 in
theorem ggX5_setDanger_X0_record : GoodIn wsX5_setDanger wsX0_record := goodIn_r _ [18, 19, 20, 21, 22, 23, 24, 25, 26, 27, 28, 29, 30, 31, 32, 33, 34, 35, 36, 37, 38, 39, 40, 41, 42, 43, 44, 45, 46, 47, 48, 49, 50, 51, 80, 81, 82, 63, 64, 65, 66, 67, 68, 69, 70, 71, 72, 73, 74, 75, 76, 77, 78, 79] (by decide +kernel) (by decide +kernel)
set_option maxRecDepth 20000 in
theorem gX5_setDanger_X0_record : GoodIn wsX5_setDanger (wsV RX5 214 RX0 yX0_record wsX0_record) := goodIn_app (goodIn_of _ (by decide +kernel)) ggX5_setDanger_X0_record
set_option maxRecDepth 20000 in
theorem ggX5_setDanger_X4_clearSignals : GoodIn wsX5_setDanger wsX4_clearSignals := goodIn_r _ [55, 32, 43, 63, 64, 65, 66, 67, 68, 69, 70, 71, 72, 73, 74, 75, 76, 77, 78, 79] (by decide +kernel) (by decide +kernel)
set_option maxRecDepth 20000 in
theorem gX5_setDanger_X4_clearSignals : GoodIn wsX5_setDanger (wsV RX5 219 RX4 yX4_clearSignals wsX4_clearSignals) := goodIn_app (goodIn_of _ (by decide +kernel)) ggX5_setDanger_X4_clearSignals
set_option maxRecDepth 20000 in
theorem ggX5_repair_X5_requireBlock : GoodIn wsX5_repair wsX5_requireBlock := goodIn_ca (goodIn_r _ [11, 12, 13, 3, 14, 53, 54, 55, 56, 57, 58, 59, 60, 61, 62, 63, 64, 65, 66, 67, 68, 69, 70, 71, 72, 73, 74, 75, 76] (by decide +kernel) (by decide +kernel)) (goodIn_sub (fun _ h => List.mem_cons_of_mem _ (List.mem_append_right _ h)) (by decide +kernel))
set_option maxRecDepth 20000 in
theorem gX5_repair_X5_requireBlock : GoodIn wsX5_repair (wsV RX5 119 RX5 yX5_requireBlock wsX5_requireBlock) := goodIn_app (goodIn_of _ (by decide +kernel)) ggX5_repair_X5_requireBlock
set_option maxRecDepth 20000 in
theorem ggX5_repair_X0_record : GoodIn wsX5_repair wsX0_record := goodIn_r _ [19, 20, 21, 22, 23, 24, 25, 26, 27, 28, 29, 30, 31, 32, 33, 34, 35, 36, 37, 38, 39, 40, 41, 42, 43, 44, 45, 46, 47, 48, 49, 50, 51, 52, 77, 78, 79, 60, 61, 62, 63, 64, 65, 66, 67, 68, 69, 70, 71, 72, 73, 74, 75, 76] (by decide +kernel) (by decide +kernel)
set_option maxRecDepth 20000 in
theorem gX5_repair_X0_record : GoodIn wsX5_repair (wsV RX5 214 RX0 yX0_record wsX0_record) := goodIn_app (goodIn_of _ (by decide +kernel)) ggX5_repair_X0_record
set_option maxRecDepth 20000 in
theorem ggX5_removeWagons_X5_requireBlock : GoodIn wsX5_removeWagons wsX5_requireBlock := goodIn_ca (goodIn_r _ [9, 10, 11, 2, 12, 51, 52, 53, 54, 55, 56, 57, 58, 59, 60, 61, 62, 63, 64, 65, 66, 67, 68, 69, 70, 71, 72, 73, 74] (by decide +kernel) (by decide +kernel)) (goodIn_sub (fun _ h => List.mem_cons_of_mem _ (List.mem_append_right _ h)) (by decide +kernel))
set_option maxRecDepth 20000 in
theorem gX5_removeWagons_X5_requireBlock : GoodIn wsX5_removeWagons (wsV RX5 119 RX5 yX5_requireBlock wsX5_requireBlock) := goodIn_app (goodIn_of _ (by decide +kernel)) ggX5_removeWagons_X5_requireBlock
set_option maxRecDepth 20000 in
theorem ggX5_removeWagons_X0_record : GoodIn wsX5_removeWagons wsX0_record := goodIn_r _ [17, 18, 19, 20, 21, 22, 23, 24, 25, 26, 27, 28, 29, 30, 31, 32, 33, 34, 35, 36, 37, 38, 39, 40, 41, 42, 43, 44, 45, 46, 47, 48, 49, 50, 75, 76, 77, 58, 59, 60, 61, 62, 63, 64, 65, 66, 67, 68, 69, 70, 71, 72, 73, 74] (by decide +kernel) (by decide +kernel)
set_option maxRecDepth 20000 in
theorem gX5_removeWagons_X0_record : GoodIn wsX5_removeWagons (wsV RX5 214 RX0 yX0_record wsX0_record) := goodIn_app (goodIn_of _ (by decide +kernel)) ggX5_removeWagons_X0_record
set_option maxRecDepth 20000 in
theorem ggX5_addWagons_X5_requireTrain : GoodIn wsX5_addWagons wsX5_requireTrain := goodIn_ca (goodIn_r _ [13, 14, 15, 5, 16, 55, 56, 57, 58, 59, 60, 61, 62, 63, 64, 65, 66, 67, 68, 69, 70, 71, 72, 73, 74, 75, 76, 77, 78] (by decide +kernel) (by decide +kernel)) (goodIn_sub (fun _ h => List.mem_cons_of_mem _ (List.mem_append_right _ h)) (by decide +kernel))
set_option maxRecDepth 20000 in
theorem gX5_addWagons_X5_requireTrain : GoodIn wsX5_addWagons (wsV RX5 163 RX5 yX5_requireTrain wsX5_requireTrain) := goodIn_app (goodIn_of _ (by decide +kernel)) ggX5_addWagons_X5_requireTrain
set_option maxRecDepth 20000 in
theorem ggX5_addWagons_X0_record : GoodIn wsX5_addWagons wsX0_record := goodIn_r _ [21, 22, 23, 24, 25, 26, 27, 28, 29, 30, 31, 32, 33, 34, 35, 36, 37, 38, 39, 40, 41, 42, 43, 44, 45, 46, 47, 48, 49, 50, 51, 52, 53, 54, 79, 80, 81, 62, 63, 64, 65, 66, 67, 68, 69, 70, 71, 72, 73, 74, 75, 76, 77, 78] (by decide +kernel) (by decide +kernel)
set_option maxRecDepth 20000 in
theorem gX5_addWagons_X0_record : GoodIn wsX5_addWagons (wsV RX5 214 RX0 yX0_record wsX0_record) := goodIn_app (goodIn_of _ (by decide +kernel)) ggX5_addWagons_X0_record
set_option maxRecDepth 20000 in
theorem ggX5_setTopSpeed_X5_requireTrain : GoodIn wsX5_setTopSpeed wsX5_requireTrain := goodIn_ca (goodIn_r _ [10, 11, 12, 4, 13, 52, 53, 54, 55, 56, 57, 58, 59, 60, 61, 62, 63, 64, 65, 66, 67, 68, 69, 70, 71, 72, 73, 74, 75] (by decide +kernel) (by decide +kernel)) (goodIn_sub (fun _ h => List.mem_cons_of_mem _ (List.mem_append_right _ h)) (by decide +kernel))
set_option maxRecDepth 20000 in
theorem gX5_setTopSpeed_X5_requireTrain : GoodIn wsX5_setTopSpeed (wsV RX5 163 RX5 yX5_requireTrain wsX5_requireTrain) := goodIn_app (goodIn_of _ (by decide +kernel)) ggX5_setTopSpeed_X5_requireTrain
set_option maxRecDepth 20000 in
theorem ggX5_setTopSpeed_X0_record : GoodIn wsX5_setTopSpeed wsX0_record := goodIn_r _ [18, 19, 20, 21, 22, 23, 24, 25, 26, 27, 28, 29, 30, 31, 32, 33, 34, 35, 36, 37, 38, 39, 40, 41, 42, 43, 44, 45, 46, 47, 48, 49, 50, 51, 76, 77, 78, 59, 60, 61, 62, 63, 64, 65, 66, 67, 68, 69, 70, 71, 72, 73, 74, 75] (by decide +kernel) (by decide +kernel)
set_option maxRecDepth 20000 in
theorem gX5_setTopSpeed_X0_record : GoodIn wsX5_setTopSpeed (wsV RX5 214 RX0 yX0_record wsX0_record) := goodIn_app (goodIn_of _ (by decide +kernel)) ggX5_setTopSpeed_X0_record
set_option maxRecDepth 20000 in
theorem ggX5_restore_X5_requireSlot : GoodIn wsX5_restore wsX5_requireSlot := goodIn_ca (goodIn_r _ [12, 13, 14] (by decide +kernel) (by decide +kernel)) (goodIn_sub (fun _ h => List.mem_cons_of_mem _ (List.mem_append_right _ h)) (by decide +kernel))
set_option maxRecDepth 20000 in
theorem gX5_restore_X5_requireSlot : GoodIn wsX5_restore (wsV RX5 232 RX5 yX5_requireSlot wsX5_requireSlot) := goodIn_app (goodIn_of _ (by decide +kernel)) ggX5_restore_X5_requireSlot
set_option maxRecDepth 20000 in
theorem ggX5_restore_X5_slotFor : GoodIn wsX5_restore wsX5_slotFor := goodIn_r _ [18, 19, 20, 62, 63, 64, 65, 66, 67, 68] (by decide +kernel) (by decide +kernel)
set_option maxRecDepth 20000 in
theorem gX5_restore_X5_slotFor : GoodIn wsX5_restore (wsV RX5 235 RX5 yX5_slotFor wsX5_slotFor) := goodIn_app (goodIn_of _ (by decide +kernel)) ggX5_restore_X5_slotFor
set_option maxRecDepth 20000 in
theorem ggX5_restore_X0_record : GoodIn wsX5_restore wsX0_record := goodIn_r _ [25, 26, 27, 28, 29, 30, 31, 32, 33, 34, 35, 36, 37, 38, 39, 40, 41, 42, 43, 44, 45, 46, 47, 48, 49, 50, 51, 52, 53, 54, 55, 56, 57, 58, 86, 87, 88, 69, 70, 71, 72, 73, 74, 75, 76, 77, 78, 79, 80, 81, 82, 83, 84, 85] (by decide +kernel) (by decide +kernel)
set_option maxRecDepth 20000 in
theorem gX5_restore_X0_record : GoodIn wsX5_restore (wsV RX5 214 RX0 yX0_record wsX0_record) := goodIn_app (goodIn_of _ (by decide +kernel)) ggX5_restore_X0_record
set_option maxRecDepth 20000 in
theorem ggX5_restore_X4_copyFrom : GoodIn wsX5_restore wsX4_copyFrom := goodIn_r _ [37, 38, 39, 40, 41, 42, 43, 44, 45, 46, 47, 48, 49, 50, 51, 52, 53, 54, 55, 56, 57, 58, 69, 70, 71, 72, 73, 74, 75, 76, 77, 78, 79, 80, 81, 82, 83, 84, 85] (by decide +kernel) (by decide +kernel)
set_option maxRecDepth 20000 in
theorem gX5_restore_X4_copyFrom : GoodIn wsX5_restore (wsV RX5 69 RX4 yX4_copyFrom wsX4_copyFrom) := goodIn_app (goodIn_of _ (by decide +kernel)) ggX5_restore_X4_copyFrom
set_option maxRecDepth 20000 in
theorem ggX5_undo_X0_takeBack : GoodIn wsX5_undo wsX0_takeBack := goodIn_r _ [10, 11, 12, 13, 14, 15, 16, 17, 18, 19, 20, 21, 22, 23, 24, 25, 26, 27, 28, 29, 30, 31, 32, 33, 34, 35, 36, 37, 38, 39, 47, 48, 49, 50, 51, 52, 53, 54, 55, 56, 57, 58, 59, 60, 61, 62, 63, 64, 65, 66] (by decide +kernel) (by decide +kernel)
set_option maxRecDepth 20000 in
theorem gX5_undo_X0_takeBack : GoodIn wsX5_undo (wsV RX5 249 RX0 yX0_takeBack wsX0_takeBack) := goodIn_app (goodIn_of _ (by decide +kernel)) ggX5_undo_X0_takeBack
set_option maxRecDepth 20000 in
theorem ggX5_save_X5_requireSlot : GoodIn wsX5_save wsX5_requireSlot := goodIn_ca (goodIn_r _ [9, 10, 11] (by decide +kernel) (by decide +kernel)) (goodIn_sub (fun _ h => List.mem_cons_of_mem _ (List.mem_append_right _ h)) (by decide +kernel))
set_option maxRecDepth 20000 in
theorem gX5_save_X5_requireSlot : GoodIn wsX5_save (wsV RX5 232 RX5 yX5_requireSlot wsX5_requireSlot) := goodIn_app (goodIn_of _ (by decide +kernel)) ggX5_save_X5_requireSlot
set_option maxRecDepth 20000 in
theorem ggX5_save_X5_slotFor : GoodIn wsX5_save wsX5_slotFor := goodIn_r _ [15, 16, 17, 46, 47, 48, 49, 50, 51, 52] (by decide +kernel) (by decide +kernel)
set_option maxRecDepth 20000 in
theorem gX5_save_X5_slotFor : GoodIn wsX5_save (wsV RX5 235 RX5 yX5_slotFor wsX5_slotFor) := goodIn_app (goodIn_of _ (by decide +kernel)) ggX5_save_X5_slotFor
set_option maxRecDepth 20000 in
theorem ggX5_save_X4_copyFrom : GoodIn wsX5_save wsX4_copyFrom := goodIn_r _ [22, 23, 24, 25, 26, 27, 28, 29, 30, 31, 32, 33, 34, 35, 36, 37, 38, 39, 40, 41, 42, 43, 53, 54, 55, 56, 57, 58, 59, 60, 61, 62, 63, 64, 65, 66, 67, 68, 69] (by decide +kernel) (by decide +kernel)
set_option maxRecDepth 20000 in
theorem gX5_save_X4_copyFrom : GoodIn wsX5_save (wsV RX5 69 RX4 yX4_copyFrom wsX4_copyFrom) := goodIn_app (goodIn_of _ (by decide +kernel)) ggX5_save_X4_copyFrom
