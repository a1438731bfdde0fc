section GL6
set_option maxRecDepth 20000 in
theorem ggL_law_X5_waitShare : GoodIn wsL_law wsX5_waitShare := goodIn_r _ [958, 16, 522, 642, 790, 1161, 1162, 1163, 1164, 1165, 1166, 1167, 1189, 1190, 1191, 1192, 1193, 1194, 1195, 1196, 1197, 1198, 1199, 1200, 1201, 1202, 1203, 1204, 1205] (by decide +kernel) (by decide +kernel)
set_option maxRecDepth 20000 in
theorem gL_law_X5_waitShare : GoodIn wsL_law (wsV RL 277 RX5 yX5_waitShare wsX5_waitShare) := goodIn_app (goodIn_of _ (by decide +kernel)) ggL_law_X5_waitShare
set_option maxRecDepth 20000 in
theorem ggL_law_X6_waitShare : GoodIn wsL_law wsX6_waitShare := goodIn_r _ [962, 364, 271, 895, 896, 897, 5, 898, 289, 290, 291, 1168, 1169, 1170, 1171, 1172, 1173, 1174, 1175, 1176, 1177, 1178, 1179, 1180, 1181, 1182, 1183, 1184, 1185, 1186, 1187, 1188] (by decide +kernel) (by decide +kernel)
set_option maxRecDepth 20000 in
theorem gL_law_X6_waitShare : GoodIn wsL_law (wsV RL 281 RX6 yX6_waitShare wsX6_waitShare) := goodIn_app (goodIn_of _ (by decide +kernel)) ggL_law_X6_waitShare
set_option maxRecDepth 20000 in
theorem ggL_law_L_advance : GoodIn wsL_law wsL_advance := goodIn_ca (goodIn_ca (goodIn_r _ [965, 381, 339, 966, 967, 968, 2, 969, 388, 389, 344, 345, 16, 522, 21, 970, 971, 972, 20, 973, 58, 974, 396, 975, 140, 141, 142, 976, 259, 260, 15, 261, 152, 153, 154, 155, 156, 40, 262, 263, 264, 265, 41, 42, 44, 45, 46, 47, 48, 49, 50, 51, 52, 867, 206, 207, 208, 209, 210, 211, 212, 213, 214, 215, 216, 217, 218, 219, 220, 221, 222, 223, 224, 225, 226, 227, 228, 229, 230, 198, 199, 200, 231, 232, 233, 234, 1161, 1162, 1163, 1164, 1165, 1166, 1167, 1189, 1190, 1191, 1192, 1193, 1194, 1195, 1196, 1197, 1198, 1199, 1200, 1201, 1202, 1203, 1204, 1205, 1206, 1207, 1208] (by decide +kernel) (by decide +kernel)) (goodIn_sub (fun _ h => List.mem_append_right _ h) (by decide +kernel))) (goodIn_sub (fun _ h => List.mem_append_left _ (List.mem_append_left _ (List.mem_append_right _ h))) (by decide +kernel))
set_option maxRecDepth 20000 in
theorem gL_law_L_advance : GoodIn wsL_law (va_wsS RL 282 yL_advance wsL_advance) := goodIn_app (goodIn_of _ (by decide +kernel)) ggL_law_L_advance
set_option maxRecDepth 20000 in
theorem ggL_law_X6_advance : GoodIn wsL_law wsX6_advance := goodIn_r _ [980, 271, 406, 407, 5, 408, 360, 361, 362, 363, 364, 981, 982, 983, 984, 404, 273, 985, 986, 987, 988, 292, 293, 294, 295, 296, 297, 298, 299, 300, 301, 302, 303, 289, 290, 291, 282, 283, 284, 304, 305, 306, 307, 308, 309, 310, 311, 312, 313, 314, 315, 316, 317, 318, 319, 320, 321, 322, 323, 324, 325, 326, 327, 328, 329, 330, 331, 332, 333, 334, 369, 370, 371, 372, 1168, 1169, 1170, 1171, 1172, 1173, 1174, 1175, 1176, 1177, 1178, 1179, 1180, 1181, 1182, 1183, 1184, 1185, 1186, 1187, 1188] (by decide +kernel) (by decide +kernel)
set_option maxRecDepth 20000 in
theorem gL_law_X6_advance : GoodIn wsL_law (wsV RL 284 RX6 yX6_advance wsX6_advance) := goodIn_app (goodIn_of _ (by decide +kernel)) ggL_law_X6_advance
set_option maxRecDepth 20000 in
theorem ggL_law_L_pull : GoodIn wsL_law wsL_pull := goodIn_ca (goodIn_ca (goodIn_r _ [991, 380, 339, 992, 993, 994, 2, 995, 344, 345, 16, 21, 606, 543, 544, 545, 546, 386, 387, 391, 658, 241, 242, 15, 243, 46, 45, 44, 244, 245, 246, 247, 42, 222, 223, 224, 225, 153, 230, 198, 199, 200, 970, 971, 972, 20, 973, 58, 974, 396, 975, 140, 141, 142, 976, 259, 260, 261, 152, 154, 155, 156, 40, 262, 263, 264, 265, 41, 47, 48, 49, 50, 51, 52, 996, 997, 998, 999, 1161, 1162, 1163, 1164, 1165, 1166, 1167, 1189, 1190, 1191, 1192, 1193, 1194, 1195, 1196, 1197, 1198, 1199, 1200, 1201, 1202, 1203, 1204, 1205, 1206, 1207, 1208] (by decide +kernel) (by decide +kernel)) (goodIn_sub (fun _ h => List.mem_append_left _ (List.mem_append_left _ (List.mem_append_right _ h))) (by decide +kernel))) (goodIn_sub (fun _ h => List.mem_append_left _ (List.mem_append_right _ h)) (by decide +kernel))
set_option maxRecDepth 20000 in
theorem gL_law_L_pull : GoodIn wsL_law (va_wsS RL 285 yL_pull wsL_pull) := goodIn_app (goodIn_of _ (by decide +kernel)) ggL_law_L_pull
set_option maxRecDepth 20000 in
theorem ggL_law_X6_pull : GoodIn wsL_law wsX6_pull := goodIn_r _ [1003, 271, 551, 552, 553, 5, 554, 406, 407, 408, 360, 361, 362, 363, 364, 480, 481, 482, 483, 324, 325, 326, 327, 289, 290, 291, 282, 283, 284, 316, 317, 318, 319, 320, 321, 322, 323, 981, 982, 983, 984, 404, 273, 985, 986, 987, 988, 1004, 1005, 1006, 1007, 369, 370, 371, 372, 1168, 1169, 1170, 1171, 1172, 1173, 1174, 1175, 1176, 1177, 1178, 1179, 1180, 1181, 1182, 1183, 1184, 1185, 1186, 1187, 1188] (by decide +kernel) (by decide +kernel)
set_option maxRecDepth 20000 in
theorem gL_law_X6_pull : GoodIn wsL_law (wsV RL 287 RX6 yX6_pull wsX6_pull) := goodIn_app (goodIn_of _ (by decide +kernel)) ggL_law_X6_pull
set_option maxRecDepth 20000 in
theorem ggL_law_L_setDanger : GoodIn wsL_law wsL_setDanger := goodIn_ca (goodIn_ca (goodIn_r _ [1010, 380, 339, 1011, 1012, 1013, 2, 1014, 344, 345, 16, 606, 21, 543, 544, 545, 546, 386, 387, 391, 970, 971, 972, 20, 973, 58, 974, 396, 975, 140, 141, 142, 976, 259, 260, 15, 261, 152, 153, 154, 155, 156, 40, 262, 263, 264, 265, 41, 42, 44, 45, 46, 47, 48, 49, 50, 51, 52, 996, 997, 998, 999, 1161, 1162, 1163, 1164, 1165, 1166, 1167, 1189, 1190, 1191, 1192, 1193, 1194, 1195, 1196, 1197, 1198, 1199, 1200, 1201, 1202, 1203, 1204, 1205, 1206, 1207, 1208] (by decide +kernel) (by decide +kernel)) (goodIn_sub (fun _ h => List.mem_append_left _ (List.mem_append_left _ (List.mem_append_right _ h))) (by decide +kernel))) (goodIn_sub (fun _ h => List.mem_append_left _ (List.mem_append_right _ h)) (by decide +kernel))
set_option maxRecDepth 20000 in
theorem gL_law_L_setDanger : GoodIn wsL_law (va_wsS RL 288 yL_setDanger wsL_setDanger) := goodIn_app (goodIn_of _ (by decide +kernel)) ggL_law_L_setDanger
set_option maxRecDepth 20000 in
theorem ggL_law_X6_setDanger : GoodIn wsL_law wsX6_setDanger := goodIn_r _ [1018, 271, 551, 552, 553, 5, 554, 406, 407, 408, 360, 361, 362, 363, 364, 282, 283, 284, 981, 982, 983, 984, 404, 273, 985, 986, 987, 988, 1004, 1005, 1006, 1007, 369, 370, 371, 372, 1168, 1169, 1170, 1171, 1172, 1173, 1174, 1175, 1176, 1177, 1178, 1179, 1180, 1181, 1182, 1183, 1184, 1185, 1186, 1187, 1188] (by decide +kernel) (by decide +kernel)
set_option maxRecDepth 20000 in
theorem gL_law_X6_setDanger : GoodIn wsL_law (wsV RL 290 RX6 yX6_setDanger wsX6_setDanger) := goodIn_app (goodIn_of _ (by decide +kernel)) ggL_law_X6_setDanger
set_option maxRecDepth 20000 in
theorem ggL_law_L_repair : GoodIn wsL_law wsL_repair := goodIn_ca (goodIn_ca (goodIn_r _ [1021, 380, 339, 1022, 1023, 1024, 2, 1025, 344, 345, 16, 618, 21, 562, 543, 544, 545, 546, 386, 387, 391, 970, 971, 972, 20, 973, 58, 974, 396, 975, 140, 141, 142, 976, 259, 260, 15, 261, 152, 153, 154, 155, 156, 40, 262, 263, 264, 265, 41, 42, 44, 45, 46, 47, 48, 49, 50, 51, 52, 1161, 1162, 1163, 1164, 1165, 1166, 1167, 1189, 1190, 1191, 1192, 1193, 1194, 1195, 1196, 1197, 1198, 1199, 1200, 1201, 1202, 1203, 1204, 1205, 1206, 1207, 1208] (by decide +kernel) (by decide +kernel)) (goodIn_sub (fun _ h => List.mem_append_left _ (List.mem_append_left _ (List.mem_append_right _ h))) (by decide +kernel))) (goodIn_sub (fun _ h => List.mem_append_left _ (List.mem_append_right _ h)) (by decide +kernel))
set_option maxRecDepth 20000 in
theorem gL_law_L_repair : GoodIn wsL_law (va_wsS RL 291 yL_repair wsL_repair) := goodIn_app (goodIn_of _ (by decide +kernel)) ggL_law_L_repair
set_option maxRecDepth 20000 in
theorem ggL_law_X6_repair : GoodIn wsL_law wsX6_repair := goodIn_r _ [1029, 271, 551, 552, 553, 5, 554, 406, 407, 408, 360, 361, 362, 363, 364, 324, 325, 326, 327, 289, 290, 291, 981, 982, 983, 984, 404, 273, 985, 986, 987, 988, 282, 283, 284, 369, 370, 371, 372, 1168, 1169, 1170, 1171, 1172, 1173, 1174, 1175, 1176, 1177, 1178, 1179, 1180, 1181, 1182, 1183, 1184, 1185, 1186, 1187, 1188] (by decide +kernel) (by decide +kernel)
set_option maxRecDepth 20000 in
theorem gL_law_X6_repair : GoodIn wsL_law (wsV RL 293 RX6 yX6_repair wsX6_repair) := goodIn_app (goodIn_of _ (by decide +kernel)) ggL_law_X6_repair
set_option maxRecDepth 20000 in
theorem ggL_law_L_removeWagons : GoodIn wsL_law wsL_removeWagons := goodIn_ca (goodIn_r _ [1032, 380, 1033, 1034, 1035, 2, 1036, 21, 16, 630, 919, 543, 544, 545, 546, 386, 387, 391, 970, 971, 972, 20, 973, 58, 974, 396, 975, 140, 141, 142, 976, 259, 260, 15, 261, 152, 153, 154, 155, 156, 40, 262, 263, 264, 265, 41, 42, 44, 45, 46, 47, 48, 49, 50, 51, 52, 1161, 1162, 1163, 1164, 1165, 1166, 1167, 1189, 1190, 1191, 1192, 1193, 1194, 1195, 1196, 1197, 1198, 1199, 1200, 1201, 1202, 1203, 1204, 1205, 1206, 1207, 1208] (by decide +kernel) (by decide +kernel)) (goodIn_sub (fun _ h => List.mem_append_left _ (List.mem_append_right _ h)) (by decide +kernel))
set_option maxRecDepth 20000 in
theorem gL_law_L_removeWagons : GoodIn wsL_law (va_wsS RL 294 yL_removeWagons wsL_removeWagons) := goodIn_app (goodIn_of _ (by decide +kernel)) ggL_law_L_removeWagons
set_option maxRecDepth 20000 in
theorem ggL_law_X6_removeWagons : GoodIn wsL_law wsX6_removeWagons := goodIn_r _ [1040, 271, 551, 552, 553, 5, 554, 406, 407, 408, 360, 361, 362, 363, 364, 981, 982, 983, 984, 404, 273, 985, 986, 987, 988, 282, 283, 284, 369, 370, 371, 372, 1168, 1169, 1170, 1171, 1172, 1173, 1174, 1175, 1176, 1177, 1178, 1179, 1180, 1181, 1182, 1183, 1184, 1185, 1186, 1187, 1188] (by decide +kernel) (by decide +kernel)
set_option maxRecDepth 20000 in
theorem gL_law_X6_removeWagons : GoodIn wsL_law (wsV RL 296 RX6 yX6_removeWagons wsX6_removeWagons) := goodIn_app (goodIn_of _ (by decide +kernel)) ggL_law_X6_removeWagons
set_option maxRecDepth 20000 in
theorem ggL_law_L_addWagons : GoodIn wsL_law wsL_addWagons := goodIn_ca (goodIn_ca (goodIn_ca (goodIn_r _ [1043, 380, 381, 339, 1044, 1045, 1046, 2, 1047, 388, 389, 344, 345, 16, 754, 21, 936, 723, 724, 725, 726, 386, 387, 642, 970, 971, 972, 20, 973, 58, 974, 396, 975, 140, 141, 142, 976, 259, 260, 15, 261, 152, 153, 154, 155, 156, 40, 262, 263, 264, 265, 41, 42, 44, 45, 46, 47, 48, 49, 50, 51, 52, 1161, 1162, 1163, 1164, 1165, 1166, 1167, 1189, 1190, 1191, 1192, 1193, 1194, 1195, 1196, 1197, 1198, 1199, 1200, 1201, 1202, 1203, 1204, 1205, 1206, 1207, 1208] (by decide +kernel) (by decide +kernel)) (goodIn_sub (fun _ h => List.mem_append_right _ h) (by decide +kernel))) (goodIn_sub (fun _ h => List.mem_append_left _ (List.mem_append_left _ (List.mem_append_right _ h))) (by decide +kernel))) (goodIn_sub (fun _ h => List.mem_append_left _ (List.mem_append_right _ h)) (by decide +kernel))
set_option maxRecDepth 20000 in
theorem gL_law_L_addWagons : GoodIn wsL_law (va_wsS RL 297 yL_addWagons wsL_addWagons) := goodIn_app (goodIn_of _ (by decide +kernel)) ggL_law_L_addWagons
set_option maxRecDepth 20000 in
theorem ggL_law_X6_addWagons : GoodIn wsL_law wsX6_addWagons := goodIn_r _ [1051, 271, 731, 732, 733, 5, 734, 406, 407, 408, 360, 361, 362, 363, 364, 289, 290, 291, 981, 982, 983, 984, 404, 273, 985, 986, 987, 988, 369, 370, 371, 372, 1168, 1169, 1170, 1171, 1172, 1173, 1174, 1175, 1176, 1177, 1178, 1179, 1180, 1181, 1182, 1183, 1184, 1185, 1186, 1187, 1188] (by decide +kernel) (by decide +kernel)
set_option maxRecDepth 20000 in
theorem gL_law_X6_addWagons : GoodIn wsL_law (wsV RL 299 RX6 yX6_addWagons wsX6_addWagons) := goodIn_app (goodIn_of _ (by decide +kernel)) ggL_law_X6_addWagons
end GL6
