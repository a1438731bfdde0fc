section GL1
set_option maxRecDepth 20000 in
theorem ggL_law_X5_blockCount : GoodIn wsL_law wsX5_blockCount := goodIn_r _ [530, 16, 391, 1161, 1162, 1163, 1164, 1165, 1166, 1167, 1189, 1190, 1191, 1192, 1193, 1194, 1195, 1196, 1197, 1198, 1199, 1200, 1201, 1202, 1203, 1204, 1205] (by decide +kernel) (by decide +kernel)
set_option maxRecDepth 20000 in
theorem gL_law_X5_blockCount : GoodIn wsL_law (wsV RL 157 RX5 yX5_blockCount wsX5_blockCount) := goodIn_app (goodIn_of _ (by decide +kernel)) ggL_law_X5_blockCount
set_option maxRecDepth 20000 in
theorem ggL_law_X6_blockCount : GoodIn wsL_law wsX6_blockCount := goodIn_r _ [534, 271, 369, 370, 371, 5, 372, 364, 1168, 1169, 1170, 1171, 1172, 1173, 1174, 1175, 1176, 1177, 1178, 1179, 1180, 1181, 1182, 1183, 1184, 1185, 1186, 1187, 1188] (by decide +kernel) (by decide +kernel)
set_option maxRecDepth 20000 in
theorem gL_law_X6_blockCount : GoodIn wsL_law (wsV RL 160 RX6 yX6_blockCount wsX6_blockCount) := goodIn_app (goodIn_of _ (by decide +kernel)) ggL_law_X6_blockCount
set_option maxRecDepth 20000 in
theorem ggL_law_L_lengthOf : GoodIn wsL_law wsL_lengthOf := goodIn_ca (goodIn_r _ [537, 380, 538, 539, 540, 2, 541, 16, 542, 543, 544, 545, 546, 386, 387, 391, 1161, 1162, 1163, 1164, 1165, 1166, 1167, 1189, 1190, 1191, 1192, 1193, 1194, 1195, 1196, 1197, 1198, 1199, 1200, 1201, 1202, 1203, 1204, 1205] (by decide +kernel) (by decide +kernel)) (goodIn_sub (fun _ h => List.mem_append_left _ (List.mem_append_right _ h)) (by decide +kernel))
set_option maxRecDepth 20000 in
theorem gL_law_L_lengthOf : GoodIn wsL_law (va_wsS RL 161 yL_lengthOf wsL_lengthOf) := goodIn_app (goodIn_of _ (by decide +kernel)) ggL_law_L_lengthOf
set_option maxRecDepth 20000 in
theorem ggL_law_X6_lengthOf : GoodIn wsL_law wsX6_lengthOf := goodIn_r _ [550, 271, 551, 552, 553, 5, 554, 406, 407, 408, 360, 361, 362, 363, 364, 282, 283, 284, 369, 370, 371, 372, 1168, 1169, 1170, 1171, 1172, 1173, 1174, 1175, 1176, 1177, 1178, 1179, 1180, 1181, 1182, 1183, 1184, 1185, 1186, 1187, 1188] (by decide +kernel) (by decide +kernel)
set_option maxRecDepth 20000 in
theorem gL_law_X6_lengthOf : GoodIn wsL_law (wsV RL 163 RX6 yX6_lengthOf wsX6_lengthOf) := goodIn_app (goodIn_of _ (by decide +kernel)) ggL_law_X6_lengthOf
set_option maxRecDepth 20000 in
theorem ggL_law_L_depthOf : GoodIn wsL_law wsL_depthOf := goodIn_ca (goodIn_r _ [557, 380, 558, 559, 560, 2, 561, 16, 562, 543, 544, 545, 546, 386, 387, 391, 1161, 1162, 1163, 1164, 1165, 1166, 1167, 1189, 1190, 1191, 1192, 1193, 1194, 1195, 1196, 1197, 1198, 1199, 1200, 1201, 1202, 1203, 1204, 1205] (by decide +kernel) (by decide +kernel)) (goodIn_sub (fun _ h => List.mem_append_left _ (List.mem_append_right _ h)) (by decide +kernel))
set_option maxRecDepth 20000 in
theorem gL_law_L_depthOf : GoodIn wsL_law (va_wsS RL 164 yL_depthOf wsL_depthOf) := goodIn_app (goodIn_of _ (by decide +kernel)) ggL_law_L_depthOf
set_option maxRecDepth 20000 in
theorem ggL_law_X6_depthOf : GoodIn wsL_law wsX6_depthOf := goodIn_r _ [566, 271, 551, 552, 553, 5, 554, 406, 407, 408, 360, 361, 362, 363, 364, 282, 283, 284, 369, 370, 371, 372, 1168, 1169, 1170, 1171, 1172, 1173, 1174, 1175, 1176, 1177, 1178, 1179, 1180, 1181, 1182, 1183, 1184, 1185, 1186, 1187, 1188] (by decide +kernel) (by decide +kernel)
set_option maxRecDepth 20000 in
theorem gL_law_X6_depthOf : GoodIn wsL_law (wsV RL 166 RX6 yX6_depthOf wsX6_depthOf) := goodIn_app (goodIn_of _ (by decide +kernel)) ggL_law_X6_depthOf
set_option maxRecDepth 20000 in
theorem ggL_law_L_isBend : GoodIn wsL_law wsL_isBend := goodIn_ca (goodIn_r _ [569, 380, 570, 571, 572, 2, 573, 16, 543, 544, 545, 546, 386, 387, 391, 574, 245, 246, 15, 247, 42, 1161, 1162, 1163, 1164, 1165, 1166, 1167, 1189, 1190, 1191, 1192, 1193, 1194, 1195, 1196, 1197, 1198, 1199, 1200, 1201, 1202, 1203, 1204, 1205] (by decide +kernel) (by decide +kernel)) (goodIn_sub (fun _ h => List.mem_append_left _ (List.mem_append_right _ h)) (by decide +kernel))
set_option maxRecDepth 20000 in
theorem gL_law_L_isBend : GoodIn wsL_law (va_wsS RL 167 yL_isBend wsL_isBend) := goodIn_app (goodIn_of _ (by decide +kernel)) ggL_law_L_isBend
set_option maxRecDepth 20000 in
theorem ggL_law_X6_isBend : GoodIn wsL_law wsX6_isBend := goodIn_r _ [578, 271, 551, 552, 553, 5, 554, 406, 407, 408, 579, 580, 581, 582, 364, 282, 283, 284, 583, 584, 585, 586, 1168, 1169, 1170, 1171, 1172, 1173, 1174, 1175, 1176, 1177, 1178, 1179, 1180, 1181, 1182, 1183, 1184, 1185, 1186, 1187, 1188] (by decide +kernel) (by decide +kernel)
set_option maxRecDepth 20000 in
theorem gL_law_X6_isBend : GoodIn wsL_law (wsV RL 169 RX6 yX6_isBend wsX6_isBend) := goodIn_app (goodIn_of _ (by decide +kernel)) ggL_law_X6_isBend
set_option maxRecDepth 20000 in
theorem ggL_law_L_limitOf : GoodIn wsL_law wsL_limitOf := goodIn_ca (goodIn_r _ [589, 380, 590, 591, 592, 2, 593, 16, 543, 544, 545, 546, 386, 387, 391, 594, 219, 220, 15, 221, 42, 1161, 1162, 1163, 1164, 1165, 1166, 1167, 1189, 1190, 1191, 1192, 1193, 1194, 1195, 1196, 1197, 1198, 1199, 1200, 1201, 1202, 1203, 1204, 1205] (by decide +kernel) (by decide +kernel)) (goodIn_sub (fun _ h => List.mem_append_left _ (List.mem_append_right _ h)) (by decide +kernel))
set_option maxRecDepth 20000 in
theorem gL_law_L_limitOf : GoodIn wsL_law (va_wsS RL 170 yL_limitOf wsL_limitOf) := goodIn_app (goodIn_of _ (by decide +kernel)) ggL_law_L_limitOf
set_option maxRecDepth 20000 in
theorem ggL_law_X6_limitOf : GoodIn wsL_law wsX6_limitOf := goodIn_r _ [598, 271, 551, 552, 553, 5, 554, 406, 407, 408, 360, 361, 362, 363, 364, 282, 283, 284, 369, 370, 371, 372, 1168, 1169, 1170, 1171, 1172, 1173, 1174, 1175, 1176, 1177, 1178, 1179, 1180, 1181, 1182, 1183, 1184, 1185, 1186, 1187, 1188] (by decide +kernel) (by decide +kernel)
set_option maxRecDepth 20000 in
theorem gL_law_X6_limitOf : GoodIn wsL_law (wsV RL 172 RX6 yX6_limitOf wsX6_limitOf) := goodIn_app (goodIn_of _ (by decide +kernel)) ggL_law_X6_limitOf
set_option maxRecDepth 20000 in
theorem ggL_law_L_isClear : GoodIn wsL_law wsL_isClear := goodIn_ca (goodIn_r _ [601, 380, 602, 603, 604, 2, 605, 16, 606, 543, 544, 545, 546, 386, 387, 391, 1161, 1162, 1163, 1164, 1165, 1166, 1167, 1189, 1190, 1191, 1192, 1193, 1194, 1195, 1196, 1197, 1198, 1199, 1200, 1201, 1202, 1203, 1204, 1205] (by decide +kernel) (by decide +kernel)) (goodIn_sub (fun _ h => List.mem_append_left _ (List.mem_append_right _ h)) (by decide +kernel))
set_option maxRecDepth 20000 in
theorem gL_law_L_isClear : GoodIn wsL_law (va_wsS RL 173 yL_isClear wsL_isClear) := goodIn_app (goodIn_of _ (by decide +kernel)) ggL_law_L_isClear
set_option maxRecDepth 20000 in
theorem ggL_law_X6_isClear : GoodIn wsL_law wsX6_isClear := goodIn_r _ [610, 271, 551, 552, 553, 5, 554, 406, 407, 408, 579, 580, 581, 582, 364, 282, 283, 284, 583, 584, 585, 586, 1168, 1169, 1170, 1171, 1172, 1173, 1174, 1175, 1176, 1177, 1178, 1179, 1180, 1181, 1182, 1183, 1184, 1185, 1186, 1187, 1188] (by decide +kernel) (by decide +kernel)
set_option maxRecDepth 20000 in
theorem gL_law_X6_isClear : GoodIn wsL_law (wsV RL 175 RX6 yX6_isClear wsX6_isClear) := goodIn_app (goodIn_of _ (by decide +kernel)) ggL_law_X6_isClear
set_option maxRecDepth 20000 in
theorem ggL_law_L_trainIn : GoodIn wsL_law wsL_trainIn := goodIn_ca (goodIn_r _ [613, 380, 614, 615, 616, 2, 617, 16, 618, 543, 544, 545, 546, 386, 387, 391, 1161, 1162, 1163, 1164, 1165, 1166, 1167, 1189, 1190, 1191, 1192, 1193, 1194, 1195, 1196, 1197, 1198, 1199, 1200, 1201, 1202, 1203, 1204, 1205] (by decide +kernel) (by decide +kernel)) (goodIn_sub (fun _ h => List.mem_append_left _ (List.mem_append_right _ h)) (by decide +kernel))
set_option maxRecDepth 20000 in
theorem gL_law_L_trainIn : GoodIn wsL_law (va_wsS RL 176 yL_trainIn wsL_trainIn) := goodIn_app (goodIn_of _ (by decide +kernel)) ggL_law_L_trainIn
set_option maxRecDepth 20000 in
theorem ggL_law_X6_trainIn : GoodIn wsL_law wsX6_trainIn := goodIn_r _ [622, 551, 552, 553, 5, 554, 271, 406, 407, 408, 360, 361, 362, 363, 364, 324, 325, 326, 327, 289, 290, 291, 369, 370, 371, 372, 1168, 1169, 1170, 1171, 1172, 1173, 1174, 1175, 1176, 1177, 1178, 1179, 1180, 1181, 1182, 1183, 1184, 1185, 1186, 1187, 1188] (by decide +kernel) (by decide +kernel)
set_option maxRecDepth 20000 in
theorem gL_law_X6_trainIn : GoodIn wsL_law (wsV RL 178 RX6 yX6_trainIn wsX6_trainIn) := goodIn_app (goodIn_of _ (by decide +kernel)) ggL_law_X6_trainIn
end GL1
