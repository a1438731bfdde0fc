section GL2
set_option maxRecDepth 20000 in
theorem ggL_law_L_lostIn : GoodIn wsL_law wsL_lostIn := goodIn_ca (goodIn_r _ [625, 380, 626, 627, 628, 2, 629, 16, 630, 543, 544, 545, 546, 386, 387, 391, 1161, 1162, 1163, 1164, 1165, 1166, 1167, 1189, 1190, 1191, 1192, 1193, 1194, 1195, 1196, 1197, 1198, 1199, 1200, 1201, 1202, 1203, 1204, 1205] (by decide +kernel) (by decide +kernel)) (goodIn_sub (fun _ h => List.mem_append_left _ (List.mem_append_right _ h)) (by decide +kernel))
set_option maxRecDepth 20000 in
theorem gL_law_L_lostIn : GoodIn wsL_law (va_wsS RL 179 yL_lostIn wsL_lostIn) := goodIn_app (goodIn_of _ (by decide +kernel)) ggL_law_L_lostIn
set_option maxRecDepth 20000 in
theorem ggL_law_X6_lostIn : GoodIn wsL_law wsX6_lostIn := goodIn_r _ [634, 271, 551, 552, 553, 5, 554, 406, 407, 408, 360, 361, 362, 363, 364, 282, 283, 284, 369, 370, 371, 372, 1168, 1169, 1170, 1171, 1172, 1173, 1174, 1175, 1176, 1177, 1178, 1179, 1180, 1181, 1182, 1183, 1184, 1185, 1186, 1187, 1188] (by decide +kernel) (by decide +kernel)
set_option maxRecDepth 20000 in
theorem gL_law_X6_lostIn : GoodIn wsL_law (wsV RL 181 RX6 yX6_lostIn wsX6_lostIn) := goodIn_app (goodIn_of _ (by decide +kernel)) ggL_law_X6_lostIn
set_option maxRecDepth 20000 in
theorem ggL_law_L_departuresFrom : GoodIn wsL_law wsL_departuresFrom := goodIn_ca (goodIn_r _ [637, 380, 638, 639, 640, 2, 641, 16, 642, 543, 544, 545, 546, 386, 387, 391, 643, 644, 645, 15, 646, 52, 1161, 1162, 1163, 1164, 1165, 1166, 1167, 1189, 1190, 1191, 1192, 1193, 1194, 1195, 1196, 1197, 1198, 1199, 1200, 1201, 1202, 1203, 1204, 1205] (by decide +kernel) (by decide +kernel)) (goodIn_sub (fun _ h => List.mem_append_left _ (List.mem_append_right _ h)) (by decide +kernel))
set_option maxRecDepth 20000 in
theorem gL_law_L_departuresFrom : GoodIn wsL_law (va_wsS RL 182 yL_departuresFrom wsL_departuresFrom) := goodIn_app (goodIn_of _ (by decide +kernel)) ggL_law_L_departuresFrom
set_option maxRecDepth 20000 in
theorem ggL_law_X6_departuresFrom : GoodIn wsL_law wsX6_departuresFrom := goodIn_r _ [650, 271, 551, 552, 553, 5, 554, 406, 407, 408, 360, 361, 362, 363, 364, 332, 333, 334, 369, 370, 371, 372, 1168, 1169, 1170, 1171, 1172, 1173, 1174, 1175, 1176, 1177, 1178, 1179, 1180, 1181, 1182, 1183, 1184, 1185, 1186, 1187, 1188] (by decide +kernel) (by decide +kernel)
set_option maxRecDepth 20000 in
theorem gL_law_X6_departuresFrom : GoodIn wsL_law (wsV RL 184 RX6 yX6_departuresFrom wsX6_departuresFrom) := goodIn_app (goodIn_of _ (by decide +kernel)) ggL_law_X6_departuresFrom
set_option maxRecDepth 20000 in
theorem ggL_law_L_obstacle : GoodIn wsL_law wsL_obstacle := goodIn_ca (goodIn_r _ [653, 380, 654, 655, 656, 2, 657, 16, 543, 544, 545, 546, 386, 387, 391, 658, 241, 242, 15, 243, 46, 45, 44, 244, 245, 246, 247, 42, 222, 223, 224, 225, 153, 230, 198, 199, 200, 1161, 1162, 1163, 1164, 1165, 1166, 1167, 1189, 1190, 1191, 1192, 1193, 1194, 1195, 1196, 1197, 1198, 1199, 1200, 1201, 1202, 1203, 1204, 1205] (by decide +kernel) (by decide +kernel)) (goodIn_sub (fun _ h => List.mem_append_left _ (List.mem_append_right _ h)) (by decide +kernel))
set_option maxRecDepth 20000 in
theorem gL_law_L_obstacle : GoodIn wsL_law (va_wsS RL 185 yL_obstacle wsL_obstacle) := goodIn_app (goodIn_of _ (by decide +kernel)) ggL_law_L_obstacle
set_option maxRecDepth 20000 in
theorem ggL_law_X6_obstacle : GoodIn wsL_law wsX6_obstacle := goodIn_r _ [662, 551, 552, 553, 5, 554, 271, 406, 407, 408, 360, 361, 362, 363, 364, 480, 481, 482, 483, 324, 325, 326, 327, 289, 290, 291, 282, 283, 284, 316, 317, 318, 319, 320, 321, 322, 323, 369, 370, 371, 372, 1168, 1169, 1170, 1171, 1172, 1173, 1174, 1175, 1176, 1177, 1178, 1179, 1180, 1181, 1182, 1183, 1184, 1185, 1186, 1187, 1188] (by decide +kernel) (by decide +kernel)
set_option maxRecDepth 20000 in
theorem gL_law_X6_obstacle : GoodIn wsL_law (wsV RL 187 RX6 yX6_obstacle wsX6_obstacle) := goodIn_app (goodIn_of _ (by decide +kernel)) ggL_law_X6_obstacle
set_option maxRecDepth 20000 in
theorem ggL_law_X5_freeLevers : GoodIn wsL_law wsX5_freeLevers := goodIn_r _ [666, 16, 391, 658, 241, 242, 15, 243, 46, 45, 44, 244, 245, 246, 247, 42, 222, 223, 224, 225, 153, 230, 198, 199, 200, 1161, 1162, 1163, 1164, 1165, 1166, 1167, 1189, 1190, 1191, 1192, 1193, 1194, 1195, 1196, 1197, 1198, 1199, 1200, 1201, 1202, 1203, 1204, 1205] (by decide +kernel) (by decide +kernel)
set_option maxRecDepth 20000 in
theorem gL_law_X5_freeLevers : GoodIn wsL_law (wsV RL 188 RX5 yX5_freeLevers wsX5_freeLevers) := goodIn_app (goodIn_of _ (by decide +kernel)) ggL_law_X5_freeLevers
set_option maxRecDepth 20000 in
theorem ggL_law_X6_freeLevers : GoodIn wsL_law wsX6_freeLevers := goodIn_r _ [670, 271, 480, 481, 482, 5, 483, 324, 325, 326, 327, 289, 290, 291, 282, 283, 284, 316, 317, 318, 319, 320, 321, 322, 323, 369, 370, 371, 372, 364, 1168, 1169, 1170, 1171, 1172, 1173, 1174, 1175, 1176, 1177, 1178, 1179, 1180, 1181, 1182, 1183, 1184, 1185, 1186, 1187, 1188] (by decide +kernel) (by decide +kernel)
set_option maxRecDepth 20000 in
theorem gL_law_X6_freeLevers : GoodIn wsL_law (wsV RL 191 RX6 yX6_freeLevers wsX6_freeLevers) := goodIn_app (goodIn_of _ (by decide +kernel)) ggL_law_X6_freeLevers
set_option maxRecDepth 20000 in
theorem ggL_law_X5_emptyBlocks : GoodIn wsL_law wsX5_emptyBlocks := goodIn_r _ [674, 16, 391, 675, 198, 199, 15, 200, 46, 45, 1161, 1162, 1163, 1164, 1165, 1166, 1167, 1189, 1190, 1191, 1192, 1193, 1194, 1195, 1196, 1197, 1198, 1199, 1200, 1201, 1202, 1203, 1204, 1205] (by decide +kernel) (by decide +kernel)
set_option maxRecDepth 20000 in
theorem gL_law_X5_emptyBlocks : GoodIn wsL_law (wsV RL 192 RX5 yX5_emptyBlocks wsX5_emptyBlocks) := goodIn_app (goodIn_of _ (by decide +kernel)) ggL_law_X5_emptyBlocks
set_option maxRecDepth 20000 in
theorem ggL_law_X6_emptyBlocks : GoodIn wsL_law wsX6_emptyBlocks := goodIn_r _ [679, 271, 320, 321, 322, 5, 323, 324, 325, 326, 327, 289, 290, 291, 282, 283, 284, 369, 370, 371, 372, 364, 1168, 1169, 1170, 1171, 1172, 1173, 1174, 1175, 1176, 1177, 1178, 1179, 1180, 1181, 1182, 1183, 1184, 1185, 1186, 1187, 1188] (by decide +kernel) (by decide +kernel)
set_option maxRecDepth 20000 in
theorem gL_law_X6_emptyBlocks : GoodIn wsL_law (wsV RL 195 RX6 yX6_emptyBlocks wsX6_emptyBlocks) := goodIn_app (goodIn_of _ (by decide +kernel)) ggL_law_X6_emptyBlocks
set_option maxRecDepth 20000 in
theorem ggL_law_X5_deepestBlock : GoodIn wsL_law wsX5_deepestBlock := goodIn_r _ [683, 16, 391, 562, 1161, 1162, 1163, 1164, 1165, 1166, 1167, 1189, 1190, 1191, 1192, 1193, 1194, 1195, 1196, 1197, 1198, 1199, 1200, 1201, 1202, 1203, 1204, 1205] (by decide +kernel) (by decide +kernel)
set_option maxRecDepth 20000 in
theorem gL_law_X5_deepestBlock : GoodIn wsL_law (wsV RL 196 RX5 yX5_deepestBlock wsX5_deepestBlock) := goodIn_app (goodIn_of _ (by decide +kernel)) ggL_law_X5_deepestBlock
set_option maxRecDepth 20000 in
theorem ggL_law_X6_deepestBlock : GoodIn wsL_law wsX6_deepestBlock := goodIn_r _ [687, 271, 282, 283, 5, 284, 369, 370, 371, 372, 364, 1168, 1169, 1170, 1171, 1172, 1173, 1174, 1175, 1176, 1177, 1178, 1179, 1180, 1181, 1182, 1183, 1184, 1185, 1186, 1187, 1188] (by decide +kernel) (by decide +kernel)
set_option maxRecDepth 20000 in
theorem gL_law_X6_deepestBlock : GoodIn wsL_law (wsV RL 199 RX6 yX6_deepestBlock wsX6_deepestBlock) := goodIn_app (goodIn_of _ (by decide +kernel)) ggL_law_X6_deepestBlock
set_option maxRecDepth 20000 in
theorem ggL_law_X5_differentDepths : GoodIn wsL_law wsX5_differentDepths := goodIn_r _ [691, 16, 391, 562, 692, 693, 694, 695, 696, 697, 698, 1161, 1162, 1163, 1164, 1165, 1166, 1167, 1189, 1190, 1191, 1192, 1193, 1194, 1195, 1196, 1197, 1198, 1199, 1200, 1201, 1202, 1203, 1204, 1205] (by decide +kernel) (by decide +kernel)
set_option maxRecDepth 20000 in
theorem gL_law_X5_differentDepths : GoodIn wsL_law (wsV RL 200 RX5 yX5_differentDepths wsX5_differentDepths) := goodIn_app (goodIn_of _ (by decide +kernel)) ggL_law_X5_differentDepths
set_option maxRecDepth 20000 in
theorem ggL_law_X6_differentDepths : GoodIn wsL_law wsX6_differentDepths := goodIn_r _ [702, 271, 703, 704, 705, 5, 706, 282, 283, 284, 369, 370, 371, 372, 364, 1168, 1169, 1170, 1171, 1172, 1173, 1174, 1175, 1176, 1177, 1178, 1179, 1180, 1181, 1182, 1183, 1184, 1185, 1186, 1187, 1188] (by decide +kernel) (by decide +kernel)
set_option maxRecDepth 20000 in
theorem gL_law_X6_differentDepths : GoodIn wsL_law (wsV RL 203 RX6 yX6_differentDepths wsX6_differentDepths) := goodIn_app (goodIn_of _ (by decide +kernel)) ggL_law_X6_differentDepths
end GL2
