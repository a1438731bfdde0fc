section GL5
set_option maxRecDepth 20000 in
theorem ggL_law_L_ticksUntilWait : GoodIn wsL_law wsL_ticksUntilWait := goodIn_ca (goodIn_r _ [874, 380, 875, 876, 877, 2, 878, 17, 16, 790, 723, 724, 725, 726, 386, 387, 642, 258, 259, 260, 15, 261, 152, 153, 154, 155, 156, 40, 262, 263, 264, 265, 41, 42, 44, 45, 46, 47, 48, 49, 50, 51, 52, 867, 206, 207, 208, 209, 210, 211, 212, 213, 140, 141, 142, 214, 215, 216, 217, 218, 219, 220, 221, 222, 223, 224, 225, 226, 227, 228, 229, 230, 198, 199, 200, 231, 232, 233, 234, 1161, 1162, 1163, 1164, 1165, 1166, 1167, 1189, 1190, 1191, 1192, 1193, 1194, 1195, 1196, 1197, 1198, 1199, 1200, 1201, 1202, 1203, 1204, 1205] (by decide +kernel) (by decide +kernel)) (goodIn_sub (fun _ h => List.mem_append_left _ (List.mem_append_right _ h)) (by decide +kernel))
set_option maxRecDepth 20000 in
theorem gL_law_L_ticksUntilWait : GoodIn wsL_law (va_wsS RL 249 yL_ticksUntilWait wsL_ticksUntilWait) := goodIn_app (goodIn_of _ (by decide +kernel)) ggL_law_L_ticksUntilWait
set_option maxRecDepth 20000 in
theorem ggL_law_X6_ticksUntilWait : GoodIn wsL_law wsX6_ticksUntilWait := goodIn_r _ [882, 271, 731, 732, 733, 5, 734, 406, 407, 408, 360, 361, 362, 363, 364, 409, 410, 411, 412, 272, 289, 290, 291, 296, 297, 298, 299, 300, 301, 302, 303, 282, 283, 284, 304, 305, 306, 307, 308, 309, 310, 311, 312, 313, 314, 315, 316, 317, 318, 319, 320, 321, 322, 323, 324, 325, 326, 327, 328, 329, 330, 331, 332, 333, 334, 496, 497, 498, 499, 369, 370, 371, 372, 1168, 1169, 1170, 1171, 1172, 1173, 1174, 1175, 1176, 1177, 1178, 1179, 1180, 1181, 1182, 1183, 1184, 1185, 1186, 1187, 1188] (by decide +kernel) (by decide +kernel)
set_option maxRecDepth 20000 in
theorem gL_law_X6_ticksUntilWait : GoodIn wsL_law (wsV RL 251 RX6 yX6_ticksUntilWait wsX6_ticksUntilWait) := goodIn_app (goodIn_of _ (by decide +kernel)) ggL_law_X6_ticksUntilWait
set_option maxRecDepth 20000 in
theorem ggL_law_X5_totalWagons : GoodIn wsL_law wsX5_totalWagons := goodIn_r _ [886, 16, 887, 888, 889, 15, 890, 154, 49, 1161, 1162, 1163, 1164, 1165, 1166, 1167, 1189, 1190, 1191, 1192, 1193, 1194, 1195, 1196, 1197, 1198, 1199, 1200, 1201, 1202, 1203, 1204, 1205] (by decide +kernel) (by decide +kernel)
set_option maxRecDepth 20000 in
theorem gL_law_X5_totalWagons : GoodIn wsL_law (wsV RL 252 RX5 yX5_totalWagons wsX5_totalWagons) := goodIn_app (goodIn_of _ (by decide +kernel)) ggL_law_X5_totalWagons
set_option maxRecDepth 20000 in
theorem ggL_law_X6_totalWagons : GoodIn wsL_law wsX6_totalWagons := goodIn_r _ [894, 895, 896, 897, 5, 898, 271, 289, 290, 291, 369, 370, 371, 372, 364, 1168, 1169, 1170, 1171, 1172, 1173, 1174, 1175, 1176, 1177, 1178, 1179, 1180, 1181, 1182, 1183, 1184, 1185, 1186, 1187, 1188] (by decide +kernel) (by decide +kernel)
set_option maxRecDepth 20000 in
theorem gL_law_X6_totalWagons : GoodIn wsL_law (wsV RL 255 RX6 yX6_totalWagons wsX6_totalWagons) := goodIn_app (goodIn_of _ (by decide +kernel)) ggL_law_X6_totalWagons
set_option maxRecDepth 20000 in
theorem ggL_law_X5_lostWagons : GoodIn wsL_law wsX5_lostWagons := goodIn_r _ [902, 16, 903, 904, 905, 15, 906, 153, 45, 1161, 1162, 1163, 1164, 1165, 1166, 1167, 1189, 1190, 1191, 1192, 1193, 1194, 1195, 1196, 1197, 1198, 1199, 1200, 1201, 1202, 1203, 1204, 1205] (by decide +kernel) (by decide +kernel)
set_option maxRecDepth 20000 in
theorem gL_law_X5_lostWagons : GoodIn wsL_law (wsV RL 256 RX5 yX5_lostWagons wsX5_lostWagons) := goodIn_app (goodIn_of _ (by decide +kernel)) ggL_law_X5_lostWagons
set_option maxRecDepth 20000 in
theorem ggL_law_X6_lostWagons : GoodIn wsL_law wsX6_lostWagons := goodIn_r _ [910, 911, 912, 913, 5, 914, 271, 282, 283, 284, 369, 370, 371, 372, 364, 1168, 1169, 1170, 1171, 1172, 1173, 1174, 1175, 1176, 1177, 1178, 1179, 1180, 1181, 1182, 1183, 1184, 1185, 1186, 1187, 1188] (by decide +kernel) (by decide +kernel)
set_option maxRecDepth 20000 in
theorem gL_law_X6_lostWagons : GoodIn wsL_law (wsV RL 259 RX6 yX6_lostWagons wsX6_lostWagons) := goodIn_app (goodIn_of _ (by decide +kernel)) ggL_law_X6_lostWagons
set_option maxRecDepth 20000 in
theorem ggL_law_X5_removedWagons : GoodIn wsL_law wsX5_removedWagons := goodIn_r _ [918, 16, 919, 1161, 1162, 1163, 1164, 1165, 1166, 1167, 1189, 1190, 1191, 1192, 1193, 1194, 1195, 1196, 1197, 1198, 1199, 1200, 1201, 1202, 1203, 1204, 1205] (by decide +kernel) (by decide +kernel)
set_option maxRecDepth 20000 in
theorem gL_law_X5_removedWagons : GoodIn wsL_law (wsV RL 260 RX5 yX5_removedWagons wsX5_removedWagons) := goodIn_app (goodIn_of _ (by decide +kernel)) ggL_law_X5_removedWagons
set_option maxRecDepth 20000 in
theorem ggL_law_X6_removedWagons : GoodIn wsL_law wsX6_removedWagons := goodIn_r _ [923, 271, 369, 370, 371, 5, 372, 364, 1168, 1169, 1170, 1171, 1172, 1173, 1174, 1175, 1176, 1177, 1178, 1179, 1180, 1181, 1182, 1183, 1184, 1185, 1186, 1187, 1188] (by decide +kernel) (by decide +kernel)
set_option maxRecDepth 20000 in
theorem gL_law_X6_removedWagons : GoodIn wsL_law (wsV RL 263 RX6 yX6_removedWagons wsX6_removedWagons) := goodIn_app (goodIn_of _ (by decide +kernel)) ggL_law_X6_removedWagons
set_option maxRecDepth 20000 in
theorem ggL_law_X5_sharedBlocks : GoodIn wsL_law wsX5_sharedBlocks := goodIn_r _ [927, 16, 642, 722, 1161, 1162, 1163, 1164, 1165, 1166, 1167, 1189, 1190, 1191, 1192, 1193, 1194, 1195, 1196, 1197, 1198, 1199, 1200, 1201, 1202, 1203, 1204, 1205] (by decide +kernel) (by decide +kernel)
set_option maxRecDepth 20000 in
theorem gL_law_X5_sharedBlocks : GoodIn wsL_law (wsV RL 264 RX5 yX5_sharedBlocks wsX5_sharedBlocks) := goodIn_app (goodIn_of _ (by decide +kernel)) ggL_law_X5_sharedBlocks
set_option maxRecDepth 20000 in
theorem ggL_law_X6_sharedBlocks : GoodIn wsL_law wsX6_sharedBlocks := goodIn_r _ [931, 271, 289, 290, 5, 291, 369, 370, 371, 372, 364, 1168, 1169, 1170, 1171, 1172, 1173, 1174, 1175, 1176, 1177, 1178, 1179, 1180, 1181, 1182, 1183, 1184, 1185, 1186, 1187, 1188] (by decide +kernel) (by decide +kernel)
set_option maxRecDepth 20000 in
theorem gL_law_X6_sharedBlocks : GoodIn wsL_law (wsV RL 267 RX6 yX6_sharedBlocks wsX6_sharedBlocks) := goodIn_app (goodIn_of _ (by decide +kernel)) ggL_law_X6_sharedBlocks
set_option maxRecDepth 20000 in
theorem ggL_law_X5_wagonDifference : GoodIn wsL_law wsX5_wagonDifference := goodIn_r _ [935, 16, 919, 936, 937, 938, 141, 939, 887, 888, 889, 15, 890, 154, 49, 903, 904, 905, 906, 153, 45, 1161, 1162, 1163, 1164, 1165, 1166, 1167, 1189, 1190, 1191, 1192, 1193, 1194, 1195, 1196, 1197, 1198, 1199, 1200, 1201, 1202, 1203, 1204, 1205] (by decide +kernel) (by decide +kernel)
set_option maxRecDepth 20000 in
theorem gL_law_X5_wagonDifference : GoodIn wsL_law (wsV RL 268 RX5 yX5_wagonDifference wsX5_wagonDifference) := goodIn_app (goodIn_of _ (by decide +kernel)) ggL_law_X5_wagonDifference
set_option maxRecDepth 20000 in
theorem ggL_law_X6_wagonDifference : GoodIn wsL_law wsX6_wagonDifference := goodIn_r _ [943, 271, 895, 896, 897, 5, 898, 289, 290, 291, 911, 912, 913, 914, 282, 283, 284, 944, 945, 946, 369, 370, 371, 372, 364, 1168, 1169, 1170, 1171, 1172, 1173, 1174, 1175, 1176, 1177, 1178, 1179, 1180, 1181, 1182, 1183, 1184, 1185, 1186, 1187, 1188] (by decide +kernel) (by decide +kernel)
set_option maxRecDepth 20000 in
theorem gL_law_X6_wagonDifference : GoodIn wsL_law (wsV RL 271 RX6 yX6_wagonDifference wsX6_wagonDifference) := goodIn_app (goodIn_of _ (by decide +kernel)) ggL_law_X6_wagonDifference
set_option maxRecDepth 20000 in
theorem ggL_law_X5_meanDepth : GoodIn wsL_law wsX5_meanDepth := goodIn_r _ [950, 16, 391, 562, 1161, 1162, 1163, 1164, 1165, 1166, 1167, 1189, 1190, 1191, 1192, 1193, 1194, 1195, 1196, 1197, 1198, 1199, 1200, 1201, 1202, 1203, 1204, 1205] (by decide +kernel) (by decide +kernel)
set_option maxRecDepth 20000 in
theorem gL_law_X5_meanDepth : GoodIn wsL_law (wsV RL 272 RX5 yX5_meanDepth wsX5_meanDepth) := goodIn_app (goodIn_of _ (by decide +kernel)) ggL_law_X5_meanDepth
set_option maxRecDepth 20000 in
theorem ggL_law_X6_meanDepth : GoodIn wsL_law wsX6_meanDepth := goodIn_r _ [954, 364, 271, 911, 912, 913, 5, 914, 282, 283, 284, 1168, 1169, 1170, 1171, 1172, 1173, 1174, 1175, 1176, 1177, 1178, 1179, 1180, 1181, 1182, 1183, 1184, 1185, 1186, 1187, 1188] (by decide +kernel) (by decide +kernel)
set_option maxRecDepth 20000 in
theorem gL_law_X6_meanDepth : GoodIn wsL_law (wsV RL 276 RX6 yX6_meanDepth wsX6_meanDepth) := goodIn_app (goodIn_of _ (by decide +kernel)) ggL_law_X6_meanDepth
end GL5
