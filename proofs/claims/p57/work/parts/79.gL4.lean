set_option maxRecDepth 20000 in
theorem ggL_act_X5_trainCount : GoodIn wsL_act wsX5_trainCount := goodIn_r _ [11, 6, 12, 237, 238, 239, 240, 241, 242, 243, 244, 245, 246, 247, 248, 249, 250, 251, 252, 253, 254, 255, 256, 257, 258, 259, 260] (by decide +kernel) (by decide +kernel)
set_option maxRecDepth 20000 in
theorem gL_act_X5_trainCount : GoodIn wsL_act (wsV RL 116 RX5 yX5_trainCount wsX5_trainCount) := goodIn_app (goodIn_of _ (by decide +kernel)) ggL_act_X5_trainCount
set_option maxRecDepth 20000 in
theorem ggL_act_L_next : GoodIn wsL_act wsL_next := goodIn_r _ [16, 17] (by decide +kernel) (by decide +kernel)
set_option maxRecDepth 20000 in
theorem gL_act_L_next : GoodIn wsL_act (va_wsS RL 77 yL_next wsL_next) := goodIn_app (goodIn_of _ (by decide +kernel)) ggL_act_L_next
set_option maxRecDepth 20000 in
theorem ggL_act_X5_blockAfter : GoodIn wsL_act wsX5_blockAfter := goodIn_ca (goodIn_ca (goodIn_r _ [21, 22, 23, 24, 6, 25, 26, 27, 28, 4, 29, 30, 31, 12, 32, 33, 34, 35, 36, 37, 38, 39, 40, 41, 42, 43, 44, 45, 46, 47, 48, 49, 50, 51, 52, 53, 54, 55, 56, 57, 58, 59, 60, 61, 62, 63, 64, 65, 66, 67, 68, 69, 70, 71, 72, 73, 74, 75, 76, 77, 78, 79, 80, 81, 82, 83, 84, 85, 86, 87, 88, 89, 90, 91, 92, 93, 237, 238, 239, 240, 241, 242, 243, 244, 245, 246, 247, 248, 249, 250, 251, 252, 253, 254, 255, 256, 257, 258, 259, 260] (by decide +kernel) (by decide +kernel)) (goodIn_sub (fun _ h => List.mem_cons_of_mem _ (List.mem_append_left _ (List.mem_append_left _ (List.mem_append_right _ h)))) (by decide +kernel))) (goodIn_sub (fun _ h => List.mem_cons_of_mem _ (List.mem_append_left _ (List.mem_append_right _ h))) (by decide +kernel))
set_option maxRecDepth 20000 in
theorem gL_act_X5_blockAfter : GoodIn wsL_act (wsV RL 209 RX5 yX5_blockAfter wsX5_blockAfter) := goodIn_app (goodIn_of _ (by decide +kernel)) ggL_act_X5_blockAfter
set_option maxRecDepth 20000 in
theorem ggL_act_X5_ticksUntilWait : GoodIn wsL_act wsX5_ticksUntilWait := goodIn_ca (goodIn_r _ [97, 24, 6, 98, 26, 27, 28, 4, 29, 30, 31, 12, 32, 33, 34, 35, 36, 37, 38, 39, 40, 41, 42, 43, 44, 45, 46, 47, 48, 49, 50, 51, 52, 53, 54, 55, 56, 57, 58, 59, 60, 61, 62, 63, 64, 65, 66, 67, 68, 69, 70, 71, 72, 73, 74, 75, 76, 77, 78, 79, 80, 81, 82, 83, 84, 85, 86, 87, 88, 89, 90, 91, 92, 93, 237, 238, 239, 240, 241, 242, 243, 244, 245, 246, 247, 248, 249, 250, 251, 252, 253, 254, 255, 256, 257, 258, 259, 260] (by decide +kernel) (by decide +kernel)) (goodIn_sub (fun _ h => List.mem_cons_of_mem _ (List.mem_append_left _ (List.mem_append_right _ h))) (by decide +kernel))
set_option maxRecDepth 20000 in
theorem gL_act_X5_ticksUntilWait : GoodIn wsL_act (wsV RL 222 RX5 yX5_ticksUntilWait wsX5_ticksUntilWait) := goodIn_app (goodIn_of _ (by decide +kernel)) ggL_act_X5_ticksUntilWait
set_option maxRecDepth 20000 in
theorem ggL_act_X5_waitsOf : GoodIn wsL_act wsX5_waitsOf := goodIn_ca (goodIn_r _ [102, 6, 98, 26, 27, 28, 4, 29, 30, 31, 12, 237, 238, 239, 240, 241, 242, 243, 244, 245, 246, 247, 248, 249, 250, 251, 252, 253, 254, 255, 256, 257, 258, 259, 260] (by decide +kernel) (by decide +kernel)) (goodIn_sub (fun _ h => List.mem_cons_of_mem _ (List.mem_append_left _ (List.mem_append_right _ h))) (by decide +kernel))
set_option maxRecDepth 20000 in
theorem gL_act_X5_waitsOf : GoodIn wsL_act (wsV RL 131 RX5 yX5_waitsOf wsX5_waitsOf) := goodIn_app (goodIn_of _ (by decide +kernel)) ggL_act_X5_waitsOf
set_option maxRecDepth 20000 in
theorem ggL_act_X5_departuresFrom : GoodIn wsL_act wsX5_departuresFrom := goodIn_ca (goodIn_r _ [106, 6, 12, 107, 108, 109, 4, 110, 30, 31, 7, 111, 112, 113, 35, 114, 57, 237, 238, 239, 240, 241, 242, 243, 244, 245, 246, 247, 248, 249, 250, 251, 252, 253, 254, 255, 256, 257, 258, 259, 260] (by decide +kernel) (by decide +kernel)) (goodIn_sub (fun _ h => List.mem_cons_of_mem _ (List.mem_append_left _ (List.mem_append_right _ h))) (by decide +kernel))
set_option maxRecDepth 20000 in
theorem gL_act_X5_departuresFrom : GoodIn wsL_act (wsV RL 156 RX5 yX5_departuresFrom wsX5_departuresFrom) := goodIn_app (goodIn_of _ (by decide +kernel)) ggL_act_X5_departuresFrom
set_option maxRecDepth 20000 in
theorem ggL_act_L_advanced : GoodIn wsL_act wsL_advanced := goodIn_ca (goodIn_ca (goodIn_r _ [117, 118, 119, 120, 121, 122, 4, 123, 22, 23, 124, 125, 6, 126, 127, 128, 129, 130, 131, 132, 133, 134, 135, 136, 67, 68, 69, 137, 33, 34, 35, 36, 37, 38, 39, 40, 41, 42, 43, 44, 45, 46, 47, 48, 49, 50, 51, 52, 53, 54, 55, 56, 57, 58, 59, 60, 61, 62, 63, 64, 65, 66, 70, 71, 72, 73, 74, 75, 76, 77, 78, 79, 80, 81, 82, 83, 84, 85, 86, 87, 88, 89, 90, 91, 92, 93, 237, 238, 239, 240, 241, 242, 243, 244, 245, 246, 247, 248, 249, 250, 251, 252, 253, 254, 255, 256, 257, 258, 259, 260, 261, 262, 263] (by decide +kernel) (by decide +kernel)) (goodIn_sub (fun _ h => List.mem_cons_of_mem _ (List.mem_append_left _ (List.mem_append_left _ (List.mem_append_right _ h)))) (by decide +kernel))) (goodIn_sub (fun _ h => List.mem_cons_of_mem _ (List.mem_append_right _ h)) (by decide +kernel))
set_option maxRecDepth 20000 in
theorem gL_act_L_advanced : GoodIn wsL_act (va_wsS RL 225 yL_advanced wsL_advanced) := goodIn_app (goodIn_of _ (by decide +kernel)) ggL_act_L_advanced
set_option maxRecDepth 20000 in
theorem ggL_act_X5_blockOf : GoodIn wsL_act wsX5_blockOf := goodIn_ca (goodIn_r _ [141, 6, 25, 26, 27, 28, 4, 29, 30, 31, 12, 237, 238, 239, 240, 241, 242, 243, 244, 245, 246, 247, 248, 249, 250, 251, 252, 253, 254, 255, 256, 257, 258, 259, 260] (by decide +kernel) (by decide +kernel)) (goodIn_sub (fun _ h => List.mem_cons_of_mem _ (List.mem_append_left _ (List.mem_append_right _ h))) (by decide +kernel))
set_option maxRecDepth 20000 in
theorem gL_act_X5_blockOf : GoodIn wsL_act (wsV RL 119 RX5 yX5_blockOf wsX5_blockOf) := goodIn_app (goodIn_of _ (by decide +kernel)) ggL_act_X5_blockOf
set_option maxRecDepth 20000 in
theorem ggL_act_X5_obstacle : GoodIn wsL_act wsX5_obstacle := goodIn_ca (goodIn_r _ [145, 6, 107, 108, 109, 4, 110, 30, 31, 7, 146, 147, 148, 35, 149, 51, 50, 49, 150, 151, 152, 153, 48, 78, 79, 80, 81, 38, 86, 87, 88, 89, 237, 238, 239, 240, 241, 242, 243, 244, 245, 246, 247, 248, 249, 250, 251, 252, 253, 254, 255, 256, 257, 258, 259, 260] (by decide +kernel) (by decide +kernel)) (goodIn_sub (fun _ h => List.mem_cons_of_mem _ (List.mem_append_left _ (List.mem_append_right _ h))) (by decide +kernel))
set_option maxRecDepth 20000 in
theorem gL_act_X5_obstacle : GoodIn wsL_act (wsV RL 153 RX5 yX5_obstacle wsX5_obstacle) := goodIn_app (goodIn_of _ (by decide +kernel)) ggL_act_X5_obstacle
set_option maxRecDepth 20000 in
theorem ggL_act_X5_freeLevers : GoodIn wsL_act wsX5_freeLevers := goodIn_r _ [157, 6, 7, 146, 147, 148, 35, 149, 51, 50, 49, 150, 151, 152, 153, 48, 78, 79, 80, 81, 38, 86, 87, 88, 89, 237, 238, 239, 240, 241, 242, 243, 244, 245, 246, 247, 248, 249, 250, 251, 252, 253, 254, 255, 256, 257, 258, 259, 260] (by decide +kernel) (by decide +kernel)
set_option maxRecDepth 20000 in
theorem gL_act_X5_freeLevers : GoodIn wsL_act (wsV RL 162 RX5 yX5_freeLevers wsX5_freeLevers) := goodIn_app (goodIn_of _ (by decide +kernel)) ggL_act_X5_freeLevers
set_option maxRecDepth 20000 in
theorem ggL_act_L_pulled : GoodIn wsL_act wsL_pulled := goodIn_ca (goodIn_ca (goodIn_r _ [160, 161, 119, 162, 163, 164, 4, 165, 124, 125, 6, 127, 166, 107, 108, 109, 110, 30, 31, 7, 146, 147, 148, 35, 149, 51, 50, 49, 150, 151, 152, 153, 48, 78, 79, 80, 81, 38, 86, 87, 88, 89, 128, 129, 130, 131, 132, 133, 134, 135, 136, 67, 68, 69, 137, 33, 34, 36, 37, 39, 40, 41, 42, 43, 44, 45, 46, 47, 52, 53, 54, 55, 56, 57, 167, 168, 169, 170, 237, 238, 239, 240, 241, 242, 243, 244, 245, 246, 247, 248, 249, 250, 251, 252, 253, 254, 255, 256, 257, 258, 259, 260, 261, 262, 263] (by decide +kernel) (by decide +kernel)) (goodIn_sub (fun _ h => List.mem_cons_of_mem _ (List.mem_append_right _ h)) (by decide +kernel))) (goodIn_sub (fun _ h => List.mem_cons_of_mem _ (List.mem_append_left _ (List.mem_append_right _ h))) (by decide +kernel))
set_option maxRecDepth 20000 in
theorem gL_act_L_pulled : GoodIn wsL_act (va_wsS RL 229 yL_pulled wsL_pulled) := goodIn_app (goodIn_of _ (by decide +kernel)) ggL_act_L_pulled
set_option maxRecDepth 20000 in
theorem ggL_act_L_removed : GoodIn wsL_act wsL_removed := goodIn_ca (goodIn_r _ [173, 161, 174, 175, 176, 4, 177, 127, 6, 178, 179, 107, 108, 109, 110, 30, 31, 7, 128, 129, 130, 131, 132, 133, 134, 135, 136, 67, 68, 69, 137, 33, 34, 35, 36, 37, 38, 39, 40, 41, 42, 43, 44, 45, 46, 47, 48, 49, 50, 51, 52, 53, 54, 55, 56, 57, 237, 238, 239, 240, 241, 242, 243, 244, 245, 246, 247, 248, 249, 250, 251, 252, 253, 254, 255, 256, 257, 258, 259, 260, 261, 262, 263] (by decide +kernel) (by decide +kernel)) (goodIn_sub (fun _ h => List.mem_cons_of_mem _ (List.mem_append_left _ (List.mem_append_right _ h))) (by decide +kernel))
set_option maxRecDepth 20000 in
theorem gL_act_L_removed : GoodIn wsL_act (va_wsS RL 232 yL_removed wsL_removed) := goodIn_app (goodIn_of _ (by decide +kernel)) ggL_act_L_removed
set_option maxRecDepth 20000 in
theorem ggL_act_X5_isClear : GoodIn wsL_act wsX5_isClear := goodIn_ca (goodIn_r _ [183, 6, 166, 107, 108, 109, 4, 110, 30, 31, 7, 237, 238, 239, 240, 241, 242, 243, 244, 245, 246, 247, 248, 249, 250, 251, 252, 253, 254, 255, 256, 257, 258, 259, 260] (by decide +kernel) (by decide +kernel)) (goodIn_sub (fun _ h => List.mem_cons_of_mem _ (List.mem_append_left _ (List.mem_append_right _ h))) (by decide +kernel))
set_option maxRecDepth 20000 in
theorem gL_act_X5_isClear : GoodIn wsL_act (wsV RL 109 RX5 yX5_isClear wsX5_isClear) := goodIn_app (goodIn_of _ (by decide +kernel)) ggL_act_X5_isClear
set_option maxRecDepth 20000 in
theorem ggL_act_L_stopped : GoodIn wsL_act wsL_stopped := goodIn_ca (goodIn_ca (goodIn_r _ [186, 161, 119, 187, 188, 189, 4, 190, 124, 125, 6, 166, 127, 107, 108, 109, 110, 30, 31, 7, 128, 129, 130, 131, 132, 133, 134, 135, 136, 67, 68, 69, 137, 33, 34, 35, 36, 37, 38, 39, 40, 41, 42, 43, 44, 45, 46, 47, 48, 49, 50, 51, 52, 53, 54, 55, 56, 57, 167, 168, 169, 170, 237, 238, 239, 240, 241, 242, 243, 244, 245, 246, 247, 248, 249, 250, 251, 252, 253, 254, 255, 256, 257, 258, 259, 260, 261, 262, 263] (by decide +kernel) (by decide +kernel)) (goodIn_sub (fun _ h => List.mem_cons_of_mem _ (List.mem_append_right _ h)) (by decide +kernel))) (goodIn_sub (fun _ h => List.mem_cons_of_mem _ (List.mem_append_left _ (List.mem_append_right _ h))) (by decide +kernel))
set_option maxRecDepth 20000 in
theorem gL_act_L_stopped : GoodIn wsL_act (va_wsS RL 235 yL_stopped wsL_stopped) := goodIn_app (goodIn_of _ (by decide +kernel)) ggL_act_L_stopped
set_option maxRecDepth 20000 in
theorem ggL_act_X5_trainIn : GoodIn wsL_act wsX5_trainIn := goodIn_ca (goodIn_r _ [194, 6, 195, 107, 108, 109, 4, 110, 30, 31, 7, 237, 238, 239, 240, 241, 242, 243, 244, 245, 246, 247, 248, 249, 250, 251, 252, 253, 254, 255, 256, 257, 258, 259, 260] (by decide +kernel) (by decide +kernel)) (goodIn_sub (fun _ h => List.mem_cons_of_mem _ (List.mem_append_left _ (List.mem_append_right _ h))) (by decide +kernel))
set_option maxRecDepth 20000 in
theorem gL_act_X5_trainIn : GoodIn wsL_act (wsV RL 137 RX5 yX5_trainIn wsX5_trainIn) := goodIn_app (goodIn_of _ (by decide +kernel)) ggL_act_X5_trainIn
set_option maxRecDepth 20000 in
theorem ggL_act_X5_depthOf : GoodIn wsL_act wsX5_depthOf := goodIn_ca (goodIn_r _ [199, 6, 200, 107, 108, 109, 4, 110, 30, 31, 7, 237, 238, 239, 240, 241, 242, 243, 244, 245, 246, 247, 248, 249, 250, 251, 252, 253, 254, 255, 256, 257, 258, 259, 260] (by decide +kernel) (by decide +kernel)) (goodIn_sub (fun _ h => List.mem_cons_of_mem _ (List.mem_append_left _ (List.mem_append_right _ h))) (by decide +kernel))
set_option maxRecDepth 20000 in
theorem gL_act_X5_depthOf : GoodIn wsL_act (wsV RL 106 RX5 yX5_depthOf wsX5_depthOf) := goodIn_app (goodIn_of _ (by decide +kernel)) ggL_act_X5_depthOf
set_option maxRecDepth 20000 in
theorem ggL_act_L_repaired : GoodIn wsL_act wsL_repaired := goodIn_ca (goodIn_ca (goodIn_r _ [203, 161, 119, 204, 205, 206, 4, 207, 124, 125, 6, 195, 127, 200, 107, 108, 109, 110, 30, 31, 7, 128, 129, 130, 131, 132, 133, 134, 135, 136, 67, 68, 69, 137, 33, 34, 35, 36, 37, 38, 39, 40, 41, 42, 43, 44, 45, 46, 47, 48, 49, 50, 51, 52, 53, 54, 55, 56, 57, 237, 238, 239, 240, 241, 242, 243, 244, 245, 246, 247, 248, 249, 250, 251, 252, 253, 254, 255, 256, 257, 258, 259, 260, 261, 262, 263] (by decide +kernel) (by decide +kernel)) (goodIn_sub (fun _ h => List.mem_cons_of_mem _ (List.mem_append_right _ h)) (by decide +kernel))) (goodIn_sub (fun _ h => List.mem_cons_of_mem _ (List.mem_append_left _ (List.mem_append_right _ h))) (by decide +kernel))
set_option maxRecDepth 20000 in
theorem gL_act_L_repaired : GoodIn wsL_act (va_wsS RL 238 yL_repaired wsL_repaired) := goodIn_app (goodIn_of _ (by decide +kernel)) ggL_act_L_repaired
set_option maxRecDepth 20000 in
theorem ggL_act_X5_lostIn : GoodIn wsL_act wsX5_lostIn := goodIn_ca (goodIn_r _ [211, 6, 178, 107, 108, 109, 4, 110, 30, 31, 7, 237, 238, 239, 240, 241, 242, 243, 244, 245, 246, 247, 248, 249, 250, 251, 252, 253, 254, 255, 256, 257, 258, 259, 260] (by decide +kernel) (by decide +kernel)) (goodIn_sub (fun _ h => List.mem_cons_of_mem _ (List.mem_append_left _ (List.mem_append_right _ h))) (by decide +kernel))
set_option maxRecDepth 20000 in
theorem gL_act_X5_lostIn : GoodIn wsL_act (wsV RL 113 RX5 yX5_lostIn wsX5_lostIn) := goodIn_app (goodIn_of _ (by decide +kernel)) ggL_act_X5_lostIn
set_option maxRecDepth 20000 in
theorem ggL_act_X5_wagonsOf : GoodIn wsL_act wsX5_wagonsOf := goodIn_ca (goodIn_r _ [215, 6, 216, 26, 27, 28, 4, 29, 30, 31, 12, 237, 238, 239, 240, 241, 242, 243, 244, 245, 246, 247, 248, 249, 250, 251, 252, 253, 254, 255, 256, 257, 258, 259, 260] (by decide +kernel) (by decide +kernel)) (goodIn_sub (fun _ h => List.mem_cons_of_mem _ (List.mem_append_left _ (List.mem_append_right _ h))) (by decide +kernel))
set_option maxRecDepth 20000 in
theorem gL_act_X5_wagonsOf : GoodIn wsL_act (wsV RL 125 RX5 yX5_wagonsOf wsX5_wagonsOf) := goodIn_app (goodIn_of _ (by decide +kernel)) ggL_act_X5_wagonsOf
set_option maxRecDepth 20000 in
theorem ggL_act_L_added : GoodIn wsL_act wsL_added := goodIn_ca (goodIn_ca (goodIn_ca (goodIn_r _ [219, 161, 118, 119, 220, 221, 222, 4, 223, 22, 23, 124, 125, 6, 216, 127, 224, 26, 27, 28, 29, 30, 31, 12, 128, 129, 130, 131, 132, 133, 134, 135, 136, 67, 68, 69, 137, 33, 34, 35, 36, 37, 38, 39, 40, 41, 42, 43, 44, 45, 46, 47, 48, 49, 50, 51, 52, 53, 54, 55, 56, 57, 237, 238, 239, 240, 241, 242, 243, 244, 245, 246, 247, 248, 249, 250, 251, 252, 253, 254, 255, 256, 257, 258, 259, 260, 261, 262, 263] (by decide +kernel) (by decide +kernel)) (goodIn_sub (fun _ h => List.mem_cons_of_mem _ (List.mem_append_left _ (List.mem_append_left _ (List.mem_append_right _ h)))) (by decide +kernel))) (goodIn_sub (fun _ h => List.mem_cons_of_mem _ (List.mem_append_right _ h)) (by decide +kernel))) (goodIn_sub (fun _ h => List.mem_cons_of_mem _ (List.mem_append_left _ (List.mem_append_right _ h))) (by decide +kernel))
set_option maxRecDepth 20000 in
theorem gL_act_L_added : GoodIn wsL_act (va_wsS RL 241 yL_added wsL_added) := goodIn_app (goodIn_of _ (by decide +kernel)) ggL_act_L_added
