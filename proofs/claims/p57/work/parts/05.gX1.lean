set_option maxRecDepth 20000 in
theorem ggX4_move_X4_leave : GoodIn wsX4_move wsX4_leave := goodIn_r _ [39, 40, 41, 35, 4, 5, 6, 7, 42, 9, 43, 44, 45, 46, 47, 48, 49, 50, 51, 52, 53, 54, 55, 56, 57, 58, 59] (by decide +kernel) (by decide +kernel)
set_option maxRecDepth 20000 in
theorem gX4_move_X4_leave : GoodIn wsX4_move (wsV RX4 100 RX4 yX4_leave wsX4_leave) := goodIn_app (goodIn_of _ (by decide +kernel)) ggX4_move_X4_leave
set_option maxRecDepth 20000 in
theorem ggX5_init_X4_init : GoodIn wsX5_init wsX4_init := goodIn_r _ [28, 29, 2, 3, 30, 31, 32, 33, 34, 35, 36, 37, 38, 39, 40, 41, 42, 43, 257, 258, 259, 260, 261, 262, 263, 264, 265, 266, 267, 268, 269, 270, 271, 272, 273] (by decide +kernel) (by decide +kernel)
set_option maxRecDepth 20000 in
theorem gX5_init_X4_init_n9 : GoodIn wsX5_init (wsX4_init) := ggX5_init_X4_init
set_option maxRecDepth 20000 in
theorem ggX5_init_X0_init : GoodIn wsX5_init wsX0_init := goodIn_r _ [46, 47, 2, 3, 48, 49, 5, 6, 27, 28, 29, 30, 31, 32, 33, 34, 35, 36, 37, 38, 39, 40, 41, 42, 43, 281, 282, 283, 257, 258, 259, 260, 261, 262, 263, 264, 265, 266, 267, 268, 269, 270, 271, 272, 273] (by decide +kernel) (by decide +kernel)
set_option maxRecDepth 20000 in
theorem gX5_init_X0_init : GoodIn wsX5_init (wsX0_init) := ggX5_init_X0_init
set_option maxRecDepth 20000 in
theorem ggX5_init_X3_init : GoodIn wsX5_init wsX3_init := goodIn_r _ [51, 52, 2, 3, 53, 5, 6, 54, 27, 28, 29, 30, 31, 32, 33, 34, 35, 36, 37, 38, 39, 40, 41, 42, 43, 257, 258, 259, 260, 261, 262, 263, 264, 265, 266, 267, 268, 269, 270, 271, 272, 273, 284, 285] (by decide +kernel) (by decide +kernel)
set_option maxRecDepth 20000 in
theorem gX5_init_X3_init_n28 : GoodIn wsX5_init (wsX3_init) := ggX5_init_X3_init
set_option maxRecDepth 20000 in
theorem ggX5_init_X2_init : GoodIn wsX5_init wsX2_init := goodIn_r _ [56, 57, 2, 3, 58, 59, 60, 61, 5, 6, 62, 27, 28, 29, 30, 31, 32, 33, 34, 35, 36, 37, 38, 39, 40, 41, 42, 43, 286, 287, 288, 289, 290, 291, 292, 293, 294, 295, 257, 258, 259, 260, 261, 262, 263, 264, 265, 266, 267, 268, 269, 270, 271, 272, 273] (by decide +kernel) (by decide +kernel)
set_option maxRecDepth 20000 in
theorem gX5_init_X2_init_n38 : GoodIn wsX5_init (wsX2_init) := ggX5_init_X2_init
set_option maxRecDepth 20000 in
theorem ggX5_init_X1_init : GoodIn wsX5_init wsX1_init := goodIn_r _ [64, 65, 2, 3, 58, 66, 296, 297] (by decide +kernel) (by decide +kernel)
set_option maxRecDepth 20000 in
theorem gX5_init_X1_init_n45 : GoodIn wsX5_init (wsX1_init) := ggX5_init_X1_init
set_option maxRecDepth 20000 in
theorem ggX5_init_X2_putText : GoodIn wsX5_init wsX2_putText := goodIn_r _ [70, 71, 72, 73, 74, 75, 76, 77, 78, 79, 80, 81, 82, 83, 84, 85, 86, 87, 88, 89, 90, 91, 92, 93, 94, 95, 96, 97, 98, 99, 100, 101, 102, 103, 104, 105, 106, 107, 108, 109, 110, 111, 112, 113, 114, 115, 116, 117, 118, 119, 120, 121, 122, 20, 123, 124, 59, 298, 299, 300, 301, 286, 287, 288, 289, 290, 291, 292, 293, 294, 295] (by decide +kernel) (by decide +kernel)
set_option maxRecDepth 20000 in
theorem gX5_init_X2_putText : GoodIn wsX5_init (wsV RX5 52 RX2 yX2_putText wsX2_putText) := goodIn_app (goodIn_of _ (by decide +kernel)) ggX5_init_X2_putText
set_option maxRecDepth 20000 in
theorem ggX5_init_J0_length_8abf5 : GoodIn wsX5_init wsJ0_length_8abf5 := goodIn_r _ [75, 76, 77, 78, 79, 74, 80, 81, 82, 298, 299, 300, 301] (by decide +kernel) (by decide +kernel)
set_option maxRecDepth 20000 in
theorem gX5_init_J0_length_8abf5 : GoodIn wsX5_init (wsV RX5 56 RJ0 yJ0_length_8abf5 wsJ0_length_8abf5) := goodIn_app (goodIn_of _ (by decide +kernel)) ggX5_init_J0_length_8abf5
set_option maxRecDepth 20000 in
theorem ggX5_init_X2_parseText : GoodIn wsX5_init wsX2_parseText := goodIn_r _ [129, 124, 130, 131, 132, 133, 134, 135, 60, 62, 136, 137, 138, 139, 140, 141, 6, 142, 143, 144, 145, 146, 147, 148, 149, 150, 20, 151, 152, 59, 153, 154, 155, 156, 157, 158, 159, 160, 71, 72, 73, 74, 75, 76, 77, 78, 79, 80, 81, 82, 83, 84, 85, 86, 87, 88, 89, 90, 91, 92, 93, 94, 95, 96, 97, 98, 99, 100, 101, 102, 103, 104, 105, 106, 107, 108, 109, 110, 111, 112, 113, 114, 115, 116, 117, 118, 119, 161, 162, 163, 164, 165, 166, 167, 168, 169, 170, 171, 172, 173, 174, 175, 176, 177, 178, 179, 180, 181, 182, 31, 32, 33, 35, 36, 37, 183, 184, 185, 186, 187, 188, 189, 190, 191, 192, 193, 194, 195, 38, 39, 40, 41, 42, 43, 196, 197, 198, 199, 200, 201, 202, 203, 204, 205, 206, 207, 208, 209, 210, 211, 212, 213, 214, 215, 216, 217, 218, 219, 220, 221, 222, 223, 224, 225, 226, 227, 228, 229, 230, 231, 232, 233, 234, 235, 236, 237, 238, 239, 240, 241, 242, 243, 244, 245, 246, 247, 248, 286, 287, 288, 289, 290, 291, 292, 293, 294, 295, 257, 258, 259, 260, 261, 262, 263, 264, 265, 266, 267, 268, 269, 270, 271, 272, 273, 298, 299, 300, 301] (by decide +kernel) (by decide +kernel)
set_option maxRecDepth 20000 in
theorem gX5_init_X2_parseText : GoodIn wsX5_init (wsV RX5 62 RX2 yX2_parseText wsX2_parseText) := goodIn_app (goodIn_of _ (by decide +kernel)) ggX5_init_X2_parseText
set_option maxRecDepth 20000 in
theorem ggX5_init_X4_copyFrom : GoodIn wsX5_init wsX4_copyFrom := goodIn_r _ [252, 143, 144, 145, 146, 147, 31, 253, 254, 255, 256, 32, 33, 35, 36, 37, 38, 39, 40, 41, 42, 43, 257, 258, 259, 260, 261, 262, 263, 264, 265, 266, 267, 268, 269, 270, 271, 272, 273] (by decide +kernel) (by decide +kernel)
set_option maxRecDepth 20000 in
theorem gX5_init_X4_copyFrom : GoodIn wsX5_init (wsV RX5 69 RX4 yX4_copyFrom wsX4_copyFrom) := goodIn_app (goodIn_of _ (by decide +kernel)) ggX5_init_X4_copyFrom
set_option maxRecDepth 20000 in
theorem ggX5_append_X2_hasRoom : GoodIn wsX5_append wsX2_hasRoom := goodIn_r _ [9, 10, 27, 28, 29, 30, 31, 32, 33, 34, 35, 36] (by decide +kernel) (by decide +kernel)
set_option maxRecDepth 20000 in
theorem gX5_append_X2_hasRoom : GoodIn wsX5_append (wsV RX5 73 RX2 yX2_hasRoom wsX2_hasRoom) := goodIn_app (goodIn_of _ (by decide +kernel)) ggX5_append_X2_hasRoom
set_option maxRecDepth 20000 in
theorem ggX5_append_X2_putInt : GoodIn wsX5_append wsX2_putInt := goodIn_r _ [14, 15, 16, 17, 8, 18, 10, 19, 27, 28, 29, 30, 31, 32, 33, 34, 35, 36] (by decide +kernel) (by decide +kernel)
set_option maxRecDepth 20000 in
theorem gX5_append_X2_putInt : GoodIn wsX5_append (wsV RX5 82 RX2 yX2_putInt wsX2_putInt) := goodIn_app (goodIn_of _ (by decide +kernel)) ggX5_append_X2_putInt
set_option maxRecDepth 20000 in
theorem ggX5_load_X2_parseText : GoodIn wsX5_load wsX2_parseText := goodIn_r _ [18, 19, 20, 21, 22, 23, 24, 25, 26, 27, 28, 29, 30, 31, 32, 33, 34, 35, 36, 37, 38, 39, 40, 41, 42, 43, 17, 44, 45, 46, 47, 48, 49, 50, 51, 52, 53, 54, 55, 56, 57, 58, 59, 60, 61, 62, 63, 64, 65, 66, 67, 68, 69, 70, 71, 72, 73, 74, 75, 76, 77, 78, 79, 80, 81, 82, 83, 84, 85, 86, 87, 88, 89, 90, 91, 92, 93, 94, 95, 96, 97, 98, 99, 100, 101, 102, 103, 104, 105, 106, 107, 108, 109, 110, 111, 112, 113, 114, 115, 116, 117, 118, 119, 120, 121, 122, 123, 124, 125, 126, 127, 128, 129, 130, 131, 132, 133, 134, 135, 136, 137, 138, 139, 140, 141, 142, 143, 144, 145, 146, 147, 148, 149, 150, 151, 152, 153, 154, 155, 156, 157, 158, 159, 160, 161, 162, 163, 164, 165, 166, 167, 168, 169, 170, 171, 172, 173, 174, 175, 176, 177, 178, 179, 180, 181, 182, 183, 184, 185, 186, 187, 188, 189, 190, 191, 192, 193, 194, 195, 196, 197, 198, 199, 200, 201, 202, 203, 225, 226, 227, 228, 229, 230, 231, 232, 233, 234, 237, 238, 239, 240, 241, 242, 243, 244, 245, 246, 247, 248, 249, 250, 251, 252, 253, 254, 255, 256, 257] (by decide +kernel) (by decide +kernel)
set_option maxRecDepth 20000 in
theorem gX5_load_X2_parseText : GoodIn wsX5_load (wsV RX5 62 RX2 yX2_parseText wsX2_parseText) := goodIn_app (goodIn_of _ (by decide +kernel)) ggX5_load_X2_parseText
set_option maxRecDepth 20000 in
theorem ggX5_load_X4_copyFrom : GoodIn wsX5_load wsX4_copyFrom := goodIn_r _ [207, 36, 37, 38, 39, 40, 126, 208, 209, 210, 211, 127, 128, 129, 130, 131, 145, 146, 147, 148, 149, 150, 237, 238, 239, 240, 241, 242, 243, 244, 245, 246, 247, 248, 249, 250, 251, 252, 253] (by decide +kernel) (by decide +kernel)
set_option maxRecDepth 20000 in
theorem gX5_load_X4_copyFrom : GoodIn wsX5_load (wsV RX5 69 RX4 yX4_copyFrom wsX4_copyFrom) := goodIn_app (goodIn_of _ (by decide +kernel)) ggX5_load_X4_copyFrom
set_option maxRecDepth 20000 in
theorem ggX5_load_X0_forget : GoodIn wsX5_load wsX0_forget := goodIn_r _ [216, 217, 258, 259, 260] (by decide +kernel) (by decide +kernel)
set_option maxRecDepth 20000 in
theorem gX5_load_X0_forget : GoodIn wsX5_load (wsV RX5 100 RX0 yX0_forget wsX0_forget) := goodIn_app (goodIn_of _ (by decide +kernel)) ggX5_load_X0_forget
set_option maxRecDepth 20000 in
theorem ggX5_lengthOf_X5_requireBlock : GoodIn wsX5_lengthOf wsX5_requireBlock := goodIn_ca (goodIn_r _ [7, 8, 9, 1, 10, 11, 12, 13, 14, 15, 16, 17, 18, 19, 20, 21, 22, 23, 24, 25, 26, 27, 28, 29, 30, 31, 32, 33, 34] (by decide +kernel) (by decide +kernel)) (goodIn_sub (fun _ h => List.mem_cons_of_mem _ (List.mem_append_right _ h)) (by decide +kernel))
set_option maxRecDepth 20000 in
theorem gX5_lengthOf_X5_requireBlock : GoodIn wsX5_lengthOf (wsV RX5 119 RX5 yX5_requireBlock wsX5_requireBlock) := goodIn_app (goodIn_of _ (by decide +kernel)) ggX5_lengthOf_X5_requireBlock
set_option maxRecDepth 20000 in
theorem ggX5_depthOf_X5_requireBlock : GoodIn wsX5_depthOf wsX5_requireBlock := goodIn_ca (goodIn_r _ [7, 8, 9, 1, 10, 11, 12, 13, 14, 15, 16, 17, 18, 19, 20, 21, 22, 23, 24, 25, 26, 27, 28, 29, 30, 31, 32, 33, 34] (by decide +kernel) (by decide +kernel)) (goodIn_sub (fun _ h => List.mem_cons_of_mem _ (List.mem_append_right _ h)) (by decide +kernel))
set_option maxRecDepth 20000 in
theorem gX5_depthOf_X5_requireBlock : GoodIn wsX5_depthOf (wsV RX5 119 RX5 yX5_requireBlock wsX5_requireBlock) := goodIn_app (goodIn_of _ (by decide +kernel)) ggX5_depthOf_X5_requireBlock
set_option maxRecDepth 20000 in
theorem ggX5_isBend_X5_requireBlock : GoodIn wsX5_isBend wsX5_requireBlock := goodIn_ca (goodIn_r _ [6, 7, 8, 1, 9, 16, 17, 18, 19, 20, 21, 22, 23, 24, 25, 26, 27, 28, 29, 30, 31, 32, 33, 34, 35, 36, 37, 38, 39] (by decide +kernel) (by decide +kernel)) (goodIn_sub (fun _ h => List.mem_cons_of_mem _ (List.mem_append_right _ h)) (by decide +kernel))
set_option maxRecDepth 20000 in
theorem gX5_isBend_X5_requireBlock : GoodIn wsX5_isBend (wsV RX5 119 RX5 yX5_requireBlock wsX5_requireBlock) := goodIn_app (goodIn_of _ (by decide +kernel)) ggX5_isBend_X5_requireBlock
set_option maxRecDepth 20000 in
theorem ggX5_isBend_X4_bends : GoodIn wsX5_isBend wsX4_bends := goodIn_r _ [14, 15, 23, 24, 25, 26, 27, 28, 29, 30, 31, 32, 33, 34, 35, 36, 37, 38, 39] (by decide +kernel) (by decide +kernel)
set_option maxRecDepth 20000 in
theorem gX5_isBend_X4_bends : GoodIn wsX5_isBend (wsV RX5 128 RX4 yX4_bends wsX4_bends) := goodIn_app (goodIn_of _ (by decide +kernel)) ggX5_isBend_X4_bends
set_option maxRecDepth 20000 in
theorem ggX5_limitOf_X5_requireBlock : GoodIn wsX5_limitOf wsX5_requireBlock := goodIn_ca (goodIn_r _ [6, 7, 8, 1, 9, 16, 17, 18, 19, 20, 21, 22, 23, 24, 25, 26, 27, 28, 29, 30, 31, 32, 33, 34, 35, 36, 37, 38, 39] (by decide +kernel) (by decide +kernel)) (goodIn_sub (fun _ h => List.mem_cons_of_mem _ (List.mem_append_right _ h)) (by decide +kernel))
set_option maxRecDepth 20000 in
theorem gX5_limitOf_X5_requireBlock : GoodIn wsX5_limitOf (wsV RX5 119 RX5 yX5_requireBlock wsX5_requireBlock) := goodIn_app (goodIn_of _ (by decide +kernel)) ggX5_limitOf_X5_requireBlock
set_option maxRecDepth 20000 in
theorem ggX5_limitOf_X4_speedLimit : GoodIn wsX5_limitOf wsX4_speedLimit := goodIn_r _ [14, 15, 23, 24, 25, 26, 27, 28, 29, 30, 31, 32, 33, 34, 35, 36, 37, 38, 39] (by decide +kernel) (by decide +kernel)
set_option maxRecDepth 20000 in
theorem gX5_limitOf_X4_speedLimit : GoodIn wsX5_limitOf (wsV RX5 131 RX4 yX4_speedLimit wsX4_speedLimit) := goodIn_app (goodIn_of _ (by decide +kernel)) ggX5_limitOf_X4_speedLimit
set_option maxRecDepth 20000 in
theorem ggX5_isClear_X5_requireBlock : GoodIn wsX5_isClear wsX5_requireBlock := goodIn_ca (goodIn_r _ [7, 8, 9, 1, 10, 11, 12, 13, 14, 15, 16, 17, 18, 19, 20, 21, 22, 23, 24, 25, 26, 27, 28, 29, 30, 31, 32, 33, 34] (by decide +kernel) (by decide +kernel)) (goodIn_sub (fun _ h => List.mem_cons_of_mem _ (List.mem_append_right _ h)) (by decide +kernel))
set_option maxRecDepth 20000 in
theorem gX5_isClear_X5_requireBlock : GoodIn wsX5_isClear (wsV RX5 119 RX5 yX5_requireBlock wsX5_requireBlock) := goodIn_app (goodIn_of _ (by decide +kernel)) ggX5_isClear_X5_requireBlock
set_option maxRecDepth 20000 in
theorem ggX5_trainIn_X5_requireBlock : GoodIn wsX5_trainIn wsX5_requireBlock := goodIn_ca (goodIn_r _ [7, 8, 9, 1, 10, 11, 12, 13, 14, 15, 16, 17, 18, 19, 20, 21, 22, 23, 24, 25, 26, 27, 28, 29, 30, 31, 32, 33, 34] (by decide +kernel) (by decide +kernel)) (goodIn_sub (fun _ h => List.mem_cons_of_mem _ (List.mem_append_right _ h)) (by decide +kernel))
set_option maxRecDepth 20000 in
theorem gX5_trainIn_X5_requireBlock : GoodIn wsX5_trainIn (wsV RX5 119 RX5 yX5_requireBlock wsX5_requireBlock) := goodIn_app (goodIn_of _ (by decide +kernel)) ggX5_trainIn_X5_requireBlock
set_option maxRecDepth 20000 in
theorem ggX5_lostIn_X5_requireBlock : GoodIn wsX5_lostIn wsX5_requireBlock := goodIn_ca (goodIn_r _ [7, 8, 9, 1, 10, 11, 12, 13, 14, 15, 16, 17, 18, 19, 20, 21, 22, 23, 24, 25, 26, 27, 28, 29, 30, 31, 32, 33, 34] (by decide +kernel) (by decide +kernel)) (goodIn_sub (fun _ h => List.mem_cons_of_mem _ (List.mem_append_right _ h)) (by decide +kernel))
set_option maxRecDepth 20000 in
theorem gX5_lostIn_X5_requireBlock : GoodIn wsX5_lostIn (wsV RX5 119 RX5 yX5_requireBlock wsX5_requireBlock) := goodIn_app (goodIn_of _ (by decide +kernel)) ggX5_lostIn_X5_requireBlock
set_option maxRecDepth 20000 in
theorem ggX5_departuresFrom_X5_requireBlock : GoodIn wsX5_departuresFrom wsX5_requireBlock := goodIn_ca (goodIn_r _ [7, 8, 9, 1, 10, 17, 18, 19, 20, 21, 22, 23, 24, 25, 26, 27, 28, 29, 30, 31, 32, 33, 34, 35, 36, 37, 38, 39, 40] (by decide +kernel) (by decide +kernel)) (goodIn_sub (fun _ h => List.mem_cons_of_mem _ (List.mem_append_right _ h)) (by decide +kernel))
set_option maxRecDepth 20000 in
theorem gX5_departuresFrom_X5_requireBlock : GoodIn wsX5_departuresFrom (wsV RX5 119 RX5 yX5_requireBlock wsX5_requireBlock) := goodIn_app (goodIn_of _ (by decide +kernel)) ggX5_departuresFrom_X5_requireBlock
set_option maxRecDepth 20000 in
theorem ggX5_departuresFrom_X4_passagesOf : GoodIn wsX5_departuresFrom wsX4_passagesOf := goodIn_r _ [15, 16, 24, 25, 26, 27, 28, 29, 30, 31, 32, 33, 34, 35, 36, 37, 38, 39, 40] (by decide +kernel) (by decide +kernel)
set_option maxRecDepth 20000 in
theorem gX5_departuresFrom_X4_passagesOf : GoodIn wsX5_departuresFrom (wsV RX5 148 RX4 yX4_passagesOf wsX4_passagesOf) := goodIn_app (goodIn_of _ (by decide +kernel)) ggX5_departuresFrom_X4_passagesOf
set_option maxRecDepth 20000 in
theorem ggX5_obstacle_X5_requireBlock : GoodIn wsX5_obstacle wsX5_requireBlock := goodIn_ca (goodIn_r _ [6, 7, 8, 1, 9, 32, 33, 34, 35, 36, 37, 38, 39, 40, 41, 42, 43, 44, 45, 46, 47, 48, 49, 50, 51, 52, 53, 54, 55] (by decide +kernel) (by decide +kernel)) (goodIn_sub (fun _ h => List.mem_cons_of_mem _ (List.mem_append_right _ h)) (by decide +kernel))
set_option maxRecDepth 20000 in
theorem gX5_obstacle_X5_requireBlock : GoodIn wsX5_obstacle (wsV RX5 119 RX5 yX5_requireBlock wsX5_requireBlock) := goodIn_app (goodIn_of _ (by decide +kernel)) ggX5_obstacle_X5_requireBlock
set_option maxRecDepth 20000 in
theorem ggX5_obstacle_X4_leverObstacle : GoodIn wsX5_obstacle wsX4_leverObstacle := goodIn_r _ [14, 15, 16, 17, 18, 19, 20, 13, 21, 22, 23, 24, 25, 26, 27, 28, 29, 30, 31, 39, 40, 41, 42, 43, 44, 45, 46, 47, 48, 49, 50, 51, 52, 53, 54, 55] (by decide +kernel) (by decide +kernel)
set_option maxRecDepth 20000 in
theorem gX5_obstacle_X4_leverObstacle : GoodIn wsX5_obstacle (wsV RX5 152 RX4 yX4_leverObstacle wsX4_leverObstacle) := goodIn_app (goodIn_of _ (by decide +kernel)) ggX5_obstacle_X4_leverObstacle
set_option maxRecDepth 20000 in
theorem ggX5_freeLevers_X4_leverObstacle : GoodIn wsX5_freeLevers wsX4_leverObstacle := goodIn_r _ [7, 8, 9, 10, 11, 12, 13, 6, 14, 15, 16, 17, 18, 19, 20, 21, 22, 23, 24, 32, 33, 34, 35, 36, 37, 38, 39, 40, 41, 42, 43, 44, 45, 46, 47, 48] (by decide +kernel) (by decide +kernel)
set_option maxRecDepth 20000 in
theorem gX5_freeLevers_X4_leverObstacle : GoodIn wsX5_freeLevers (wsV RX5 152 RX4 yX4_leverObstacle wsX4_leverObstacle) := goodIn_app (goodIn_of _ (by decide +kernel)) ggX5_freeLevers_X4_leverObstacle
set_option maxRecDepth 20000 in
theorem ggX5_emptyBlocks_X4_occupied : GoodIn wsX5_emptyBlocks wsX4_occupied := goodIn_r _ [7, 8, 9, 17, 18, 19, 20, 21, 22, 23, 24, 25, 26, 27, 28, 29, 30, 31, 32, 33] (by decide +kernel) (by decide +kernel)
set_option maxRecDepth 20000 in
theorem gX5_emptyBlocks_X4_occupied : GoodIn wsX5_emptyBlocks (wsV RX5 155 RX4 yX4_occupied wsX4_occupied) := goodIn_app (goodIn_of _ (by decide +kernel)) ggX5_emptyBlocks_X4_occupied
set_option maxRecDepth 20000 in
theorem ggX5_differentDepths_J6_bitCount_0f7a4 : GoodIn wsX5_differentDepths wsJ6_bitCount_0f7a4 := goodIn_r _ [7, 8, 9, 10] (by decide +kernel) (by decide +kernel)
set_option maxRecDepth 20000 in
theorem gX5_differentDepths_J6_bitCount_0f7a4 : GoodIn wsX5_differentDepths (va_wsS RX5 158 yJ6_bitCount_0f7a4 wsJ6_bitCount_0f7a4) := goodIn_app (goodIn_of _ (by decide +kernel)) ggX5_differentDepths_J6_bitCount_0f7a4
set_option maxRecDepth 20000 in
theorem ggX5_blockOf_X5_requireTrain : GoodIn wsX5_blockOf wsX5_requireTrain := goodIn_ca (goodIn_r _ [7, 8, 9, 1, 10, 11, 12, 13, 14, 15, 16, 17, 18, 19, 20, 21, 22, 23, 24, 25, 26, 27, 28, 29, 30, 31, 32, 33, 34] (by decide +kernel) (by decide +kernel)) (goodIn_sub (fun _ h => List.mem_cons_of_mem _ (List.mem_append_right _ h)) (by decide +kernel))
set_option maxRecDepth 20000 in
theorem gX5_blockOf_X5_requireTrain : GoodIn wsX5_blockOf (wsV RX5 163 RX5 yX5_requireTrain wsX5_requireTrain) := goodIn_app (goodIn_of _ (by decide +kernel)) ggX5_blockOf_X5_requireTrain
set_option maxRecDepth 20000 in
theorem ggX5_positionOf_X5_requireTrain : GoodIn wsX5_positionOf wsX5_requireTrain := goodIn_ca (goodIn_r _ [7, 8, 9, 1, 10, 11, 12, 13, 14, 15, 16, 17, 18, 19, 20, 21, 22, 23, 24, 25, 26, 27, 28, 29, 30, 31, 32, 33, 34] (by decide +kernel) (by decide +kernel)) (goodIn_sub (fun _ h => List.mem_cons_of_mem _ (List.mem_append_right _ h)) (by decide +kernel))
set_option maxRecDepth 20000 in
theorem gX5_positionOf_X5_requireTrain : GoodIn wsX5_positionOf (wsV RX5 163 RX5 yX5_requireTrain wsX5_requireTrain) := goodIn_app (goodIn_of _ (by decide +kernel)) ggX5_positionOf_X5_requireTrain
set_option maxRecDepth 20000 in
theorem ggX5_wagonsOf_X5_requireTrain : GoodIn wsX5_wagonsOf wsX5_requireTrain := goodIn_ca (goodIn_r _ [7, 8, 9, 1, 10, 11, 12, 13, 14, 15, 16, 17, 18, 19, 20, 21, 22, 23, 24, 25, 26, 27, 28, 29, 30, 31, 32, 33, 34] (by decide +kernel) (by decide +kernel)) (goodIn_sub (fun _ h => List.mem_cons_of_mem _ (List.mem_append_right _ h)) (by decide +kernel))
set_option maxRecDepth 20000 in
theorem gX5_wagonsOf_X5_requireTrain : GoodIn wsX5_wagonsOf (wsV RX5 163 RX5 yX5_requireTrain wsX5_requireTrain) := goodIn_app (goodIn_of _ (by decide +kernel)) ggX5_wagonsOf_X5_requireTrain
set_option maxRecDepth 20000 in
theorem ggX5_topSpeedOf_X5_requireTrain : GoodIn wsX5_topSpeedOf wsX5_requireTrain := goodIn_ca (goodIn_r _ [7, 8, 9, 1, 10, 11, 12, 13, 14, 15, 16, 17, 18, 19, 20, 21, 22, 23, 24, 25, 26, 27, 28, 29, 30, 31, 32, 33, 34] (by decide +kernel) (by decide +kernel)) (goodIn_sub (fun _ h => List.mem_cons_of_mem _ (List.mem_append_right _ h)) (by decide +kernel))
set_option maxRecDepth 20000 in
theorem gX5_topSpeedOf_X5_requireTrain : GoodIn wsX5_topSpeedOf (wsV RX5 163 RX5 yX5_requireTrain wsX5_requireTrain) := goodIn_app (goodIn_of _ (by decide +kernel)) ggX5_topSpeedOf_X5_requireTrain
set_option maxRecDepth 20000 in
theorem ggX5_speedOf_X5_requireTrain : GoodIn wsX5_speedOf wsX5_requireTrain := goodIn_ca (goodIn_r _ [6, 7, 8, 1, 9, 26, 27, 28, 29, 30, 31, 32, 33, 34, 35, 36, 37, 38, 39, 40, 41, 42, 43, 44, 45, 46, 47, 48, 49] (by decide +kernel) (by decide +kernel)) (goodIn_sub (fun _ h => List.mem_cons_of_mem _ (List.mem_append_right _ h)) (by decide +kernel))
set_option maxRecDepth 20000 in
theorem gX5_speedOf_X5_requireTrain : GoodIn wsX5_speedOf (wsV RX5 163 RX5 yX5_requireTrain wsX5_requireTrain) := goodIn_app (goodIn_of _ (by decide +kernel)) ggX5_speedOf_X5_requireTrain
set_option maxRecDepth 20000 in
theorem ggX5_speedOf_X4_speedNow : GoodIn wsX5_speedOf wsX4_speedNow := goodIn_r _ [14, 15, 16, 17, 18, 19, 20, 21, 22, 23, 13, 24, 25, 33, 34, 35, 36, 37, 38, 39, 40, 41, 42, 43, 44, 45, 46, 47, 48, 49] (by decide +kernel) (by decide +kernel)
set_option maxRecDepth 20000 in
theorem gX5_speedOf_X4_speedNow : GoodIn wsX5_speedOf (wsV RX5 178 RX4 yX4_speedNow wsX4_speedNow) := goodIn_app (goodIn_of _ (by decide +kernel)) ggX5_speedOf_X4_speedNow
set_option maxRecDepth 20000 in
theorem ggX5_waitsOf_X5_requireTrain : GoodIn wsX5_waitsOf wsX5_requireTrain := goodIn_ca (goodIn_r _ [7, 8, 9, 1, 10, 11, 12, 13, 14, 15, 16, 17, 18, 19, 20, 21, 22, 23, 24, 25, 26, 27, 28, 29, 30, 31, 32, 33, 34] (by decide +kernel) (by decide +kernel)) (goodIn_sub (fun _ h => List.mem_cons_of_mem _ (List.mem_append_right _ h)) (by decide +kernel))
set_option maxRecDepth 20000 in
theorem gX5_waitsOf_X5_requireTrain : GoodIn wsX5_waitsOf (wsV RX5 163 RX5 yX5_requireTrain wsX5_requireTrain) := goodIn_app (goodIn_of _ (by decide +kernel)) ggX5_waitsOf_X5_requireTrain
set_option maxRecDepth 20000 in
theorem ggX5_passages_X5_requireTrain : GoodIn wsX5_passages wsX5_requireTrain := goodIn_ca (goodIn_r _ [6, 7, 8, 1, 9, 21, 22, 23, 24, 25, 26, 27, 28, 29, 30, 31, 32, 33, 34, 35, 36, 37, 38, 39, 40, 41, 42, 43, 44] (by decide +kernel) (by decide +kernel)) (goodIn_sub (fun _ h => List.mem_cons_of_mem _ (List.mem_append_right _ h)) (by decide +kernel))
set_option maxRecDepth 20000 in
theorem gX5_passages_X5_requireTrain : GoodIn wsX5_passages (wsV RX5 163 RX5 yX5_requireTrain wsX5_requireTrain) := goodIn_app (goodIn_of _ (by decide +kernel)) ggX5_passages_X5_requireTrain
set_option maxRecDepth 20000 in
theorem ggX5_passages_X5_requireBlock : GoodIn wsX5_passages wsX5_requireBlock := goodIn_ca (goodIn_r _ [13, 7, 8, 1, 14, 21, 22, 23, 24, 25, 26, 27, 28, 29, 30, 31, 32, 33, 34, 35, 36, 37, 38, 39, 40, 41, 42, 43, 44] (by decide +kernel) (by decide +kernel)) (goodIn_sub (fun _ h => List.mem_cons_of_mem _ (List.mem_append_right _ h)) (by decide +kernel))
set_option maxRecDepth 20000 in
theorem gX5_passages_X5_requireBlock : GoodIn wsX5_passages (wsV RX5 119 RX5 yX5_requireBlock wsX5_requireBlock) := goodIn_app (goodIn_of _ (by decide +kernel)) ggX5_passages_X5_requireBlock
set_option maxRecDepth 20000 in
theorem ggX5_passages_X4_passagesOf : GoodIn wsX5_passages wsX4_passagesOf := goodIn_r _ [19, 20, 28, 29, 30, 31, 32, 33, 34, 35, 36, 37, 38, 39, 40, 41, 42, 43, 44] (by decide +kernel) (by decide +kernel)
set_option maxRecDepth 20000 in
theorem gX5_passages_X4_passagesOf : GoodIn wsX5_passages (wsV RX5 148 RX4 yX4_passagesOf wsX4_passagesOf) := goodIn_app (goodIn_of _ (by decide +kernel)) ggX5_passages_X4_passagesOf
set_option maxRecDepth 20000 in
theorem ggX5_differentPassages_X4_passagesOf : GoodIn wsX5_differentPassages wsX4_passagesOf := goodIn_r _ [8, 9, 17, 18, 19, 20, 21, 22, 23, 24, 25, 26, 27, 28, 29, 30, 31, 32, 33] (by decide +kernel) (by decide +kernel)
set_option maxRecDepth 20000 in
theorem gX5_differentPassages_X4_passagesOf : GoodIn wsX5_differentPassages (wsV RX5 148 RX4 yX4_passagesOf wsX4_passagesOf) := goodIn_app (goodIn_of _ (by decide +kernel)) ggX5_differentPassages_X4_passagesOf
set_option maxRecDepth 20000 in
theorem ggX5_ticksToEnd_X5_requireTrain : GoodIn wsX5_ticksToEnd wsX5_requireTrain := goodIn_ca (goodIn_r _ [9, 10, 11, 1, 12, 29, 30, 31, 32, 33, 34, 35, 36, 37, 38, 39, 40, 41, 42, 43, 44, 45, 46, 47, 48, 49, 50, 51, 52] (by decide +kernel) (by decide +kernel)) (goodIn_sub (fun _ h => List.mem_cons_of_mem _ (List.mem_append_right _ h)) (by decide +kernel))
set_option maxRecDepth 20000 in
theorem gX5_ticksToEnd_X5_requireTrain : GoodIn wsX5_ticksToEnd (wsV RX5 163 RX5 yX5_requireTrain wsX5_requireTrain) := goodIn_app (goodIn_of _ (by decide +kernel)) ggX5_ticksToEnd_X5_requireTrain
set_option maxRecDepth 20000 in
theorem ggX5_ticksToEnd_X4_speedNow : GoodIn wsX5_ticksToEnd wsX4_speedNow := goodIn_r _ [17, 18, 19, 20, 21, 22, 23, 24, 25, 26, 16, 27, 28, 36, 37, 38, 39, 40, 41, 42, 43, 44, 45, 46, 47, 48, 49, 50, 51, 52] (by decide +kernel) (by decide +kernel)
set_option maxRecDepth 20000 in
theorem gX5_ticksToEnd_X4_speedNow : GoodIn wsX5_ticksToEnd (wsV RX5 178 RX4 yX4_speedNow wsX4_speedNow) := goodIn_app (goodIn_of _ (by decide +kernel)) ggX5_ticksToEnd_X4_speedNow
set_option maxRecDepth 20000 in
theorem ggX5_trainAhead_X5_requireTrain : GoodIn wsX5_trainAhead wsX5_requireTrain := goodIn_ca (goodIn_r _ [9, 10, 11, 1, 12, 19, 20, 21, 22, 23, 24, 25, 26, 27, 28, 29, 30, 31, 32, 33, 34, 35, 36, 37, 38, 39, 40, 41, 42] (by decide +kernel) (by decide +kernel)) (goodIn_sub (fun _ h => List.mem_cons_of_mem _ (List.mem_append_right _ h)) (by decide +kernel))
set_option maxRecDepth 20000 in
theorem gX5_trainAhead_X5_requireTrain : GoodIn wsX5_trainAhead (wsV RX5 163 RX5 yX5_requireTrain wsX5_requireTrain) := goodIn_app (goodIn_of _ (by decide +kernel)) ggX5_trainAhead_X5_requireTrain
set_option maxRecDepth 20000 in
theorem ggX5_trainAhead_X4_nextBlock : GoodIn wsX5_trainAhead wsX4_nextBlock := goodIn_r _ [17, 18, 26, 27, 28, 29, 30, 31, 32, 33, 34, 35, 36, 37, 38, 39, 40, 41, 42] (by decide +kernel) (by decide +kernel)
set_option maxRecDepth 20000 in
theorem gX5_trainAhead_X4_nextBlock : GoodIn wsX5_trainAhead (wsV RX5 184 RX4 yX4_nextBlock wsX4_nextBlock) := goodIn_app (goodIn_of _ (by decide +kernel)) ggX5_trainAhead_X4_nextBlock
set_option maxRecDepth 20000 in
theorem ggX5_clearBlocksAhead_X5_requireTrain : GoodIn wsX5_clearBlocksAhead wsX5_requireTrain := goodIn_ca (goodIn_r _ [8, 9, 10, 1, 11, 24, 25, 26, 27, 28, 29, 30, 31, 32, 33, 34, 35, 36, 37, 38, 39, 40, 41, 42, 43, 44, 45, 46, 47] (by decide +kernel) (by decide +kernel)) (goodIn_sub (fun _ h => List.mem_cons_of_mem _ (List.mem_append_right _ h)) (by decide +kernel))
set_option maxRecDepth 20000 in
theorem gX5_clearBlocksAhead_X5_requireTrain : GoodIn wsX5_clearBlocksAhead (wsV RX5 163 RX5 yX5_requireTrain wsX5_requireTrain) := goodIn_app (goodIn_of _ (by decide +kernel)) ggX5_clearBlocksAhead_X5_requireTrain
set_option maxRecDepth 20000 in
theorem ggX5_clearBlocksAhead_X4_nextBlock : GoodIn wsX5_clearBlocksAhead wsX4_nextBlock := goodIn_r _ [16, 17, 31, 32, 33, 34, 35, 36, 37, 38, 39, 40, 41, 42, 43, 44, 45, 46, 47] (by decide +kernel) (by decide +kernel)
set_option maxRecDepth 20000 in
theorem gX5_clearBlocksAhead_X4_nextBlock : GoodIn wsX5_clearBlocksAhead (wsV RX5 184 RX4 yX4_nextBlock wsX4_nextBlock) := goodIn_app (goodIn_of _ (by decide +kernel)) ggX5_clearBlocksAhead_X4_nextBlock
set_option maxRecDepth 20000 in
theorem ggX5_clearBlocksAhead_X4_occupied : GoodIn wsX5_clearBlocksAhead wsX4_occupied := goodIn_r _ [21, 22, 23, 31, 32, 33, 34, 35, 36, 37, 38, 39, 40, 41, 42, 43, 44, 45, 46, 47] (by decide +kernel) (by decide +kernel)
set_option maxRecDepth 20000 in
theorem gX5_clearBlocksAhead_X4_occupied : GoodIn wsX5_clearBlocksAhead (wsV RX5 155 RX4 yX4_occupied wsX4_occupied) := goodIn_app (goodIn_of _ (by decide +kernel)) ggX5_clearBlocksAhead_X4_occupied
set_option maxRecDepth 20000 in
theorem ggX5_canEnter_X5_requireTrain : GoodIn wsX5_canEnter wsX5_requireTrain := goodIn_ca (goodIn_r _ [7, 8, 9, 1, 10, 28, 29, 30, 31, 32, 33, 34, 35, 36, 37, 38, 39, 40, 41, 42, 43, 44, 45, 46, 47, 48, 49, 50, 51] (by decide +kernel) (by decide +kernel)) (goodIn_sub (fun _ h => List.mem_cons_of_mem _ (List.mem_append_right _ h)) (by decide +kernel))
set_option maxRecDepth 20000 in
theorem gX5_canEnter_X5_requireTrain : GoodIn wsX5_canEnter (wsV RX5 163 RX5 yX5_requireTrain wsX5_requireTrain) := goodIn_app (goodIn_of _ (by decide +kernel)) ggX5_canEnter_X5_requireTrain
