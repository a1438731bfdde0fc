section GL7
set_option maxRecDepth 20000 in
theorem ggL_law_L_setTopSpeed : GoodIn wsL_law wsL_setTopSpeed := goodIn_ca (goodIn_ca (goodIn_r _ [1054, 380, 381, 1055, 1056, 1057, 2, 1058, 388, 389, 21, 16, 766, 723, 724, 725, 726, 386, 387, 642, 970, 971, 972, 20, 973, 58, 974, 396, 975, 140, 141, 142, 976, 259, 260, 15, 261, 152, 153, 154, 155, 156, 40, 262, 263, 264, 265, 41, 42, 44, 45, 46, 47, 48, 49, 50, 51, 52, 1161, 1162, 1163, 1164, 1165, 1166, 1167, 1189, 1190, 1191, 1192, 1193, 1194, 1195, 1196, 1197, 1198, 1199, 1200, 1201, 1202, 1203, 1204, 1205, 1206, 1207, 1208] (by decide +kernel) (by decide +kernel)) (goodIn_sub (fun _ h => List.mem_append_right _ h) (by decide +kernel))) (goodIn_sub (fun _ h => List.mem_append_left _ (List.mem_append_right _ h)) (by decide +kernel))
set_option maxRecDepth 20000 in
theorem gL_law_L_setTopSpeed : GoodIn wsL_law (va_wsS RL 300 yL_setTopSpeed wsL_setTopSpeed) := goodIn_app (goodIn_of _ (by decide +kernel)) ggL_law_L_setTopSpeed
set_option maxRecDepth 20000 in
theorem ggL_law_X6_setTopSpeed : GoodIn wsL_law wsX6_setTopSpeed := goodIn_r _ [1062, 271, 731, 732, 733, 5, 734, 406, 407, 408, 360, 361, 362, 363, 364, 981, 982, 983, 984, 404, 273, 985, 986, 987, 988, 289, 290, 291, 369, 370, 371, 372, 1168, 1169, 1170, 1171, 1172, 1173, 1174, 1175, 1176, 1177, 1178, 1179, 1180, 1181, 1182, 1183, 1184, 1185, 1186, 1187, 1188] (by decide +kernel) (by decide +kernel)
set_option maxRecDepth 20000 in
theorem gL_law_X6_setTopSpeed : GoodIn wsL_law (wsV RL 302 RX6 yX6_setTopSpeed wsX6_setTopSpeed) := goodIn_app (goodIn_of _ (by decide +kernel)) ggL_law_X6_setTopSpeed
set_option maxRecDepth 20000 in
theorem ggL_law_L_restore : GoodIn wsL_law wsL_restore := goodIn_ca (goodIn_ca (goodIn_r _ [1065, 380, 339, 1066, 1067, 1068, 2, 1069, 344, 345, 390, 21, 16, 1070, 522, 1071, 1072, 1073, 1074, 386, 387, 1075, 1076, 1077, 1078, 25, 26, 970, 971, 972, 20, 973, 58, 974, 396, 975, 140, 141, 142, 976, 259, 260, 15, 261, 152, 153, 154, 155, 156, 40, 262, 263, 264, 265, 41, 42, 44, 45, 46, 47, 48, 49, 50, 51, 52, 258, 1209, 1210, 1161, 1162, 1163, 1164, 1165, 1166, 1167, 1189, 1190, 1191, 1192, 1193, 1194, 1195, 1196, 1197, 1198, 1199, 1200, 1201, 1202, 1203, 1204, 1205, 1206, 1207, 1208] (by decide +kernel) (by decide +kernel)) (goodIn_sub (fun _ h => List.mem_append_left _ (List.mem_append_left _ (List.mem_append_right _ h))) (by decide +kernel))) (goodIn_sub (fun _ h => List.mem_append_left _ (List.mem_append_right _ h)) (by decide +kernel))
set_option maxRecDepth 20000 in
theorem gL_law_L_restore : GoodIn wsL_law (va_wsS RL 303 yL_restore wsL_restore) := goodIn_app (goodIn_of _ (by decide +kernel)) ggL_law_L_restore
set_option maxRecDepth 20000 in
theorem ggL_law_X6_restore : GoodIn wsL_law wsX6_restore := goodIn_r _ [1082, 405, 271, 274, 406, 407, 5, 408, 360, 361, 362, 363, 364, 981, 982, 983, 984, 404, 273, 985, 986, 987, 988, 369, 370, 371, 372, 1168, 1169, 1170, 1171, 1172, 1173, 1174, 1175, 1176, 1177, 1178, 1179, 1180, 1181, 1182, 1183, 1184, 1185, 1186, 1187, 1188] (by decide +kernel) (by decide +kernel)
set_option maxRecDepth 20000 in
theorem gL_law_X6_restore : GoodIn wsL_law (wsV RL 305 RX6 yX6_restore wsX6_restore) := goodIn_app (goodIn_of _ (by decide +kernel)) ggL_law_X6_restore
set_option maxRecDepth 20000 in
theorem ggL_law_L_undo : GoodIn wsL_law wsL_undo := goodIn_ca (goodIn_r _ [1085, 339, 1086, 1087, 1088, 2, 1089, 344, 345, 21, 1090, 16, 1091, 1092, 1093, 20, 1094, 974, 58, 396, 976, 259, 260, 15, 261, 152, 153, 154, 155, 156, 40, 262, 263, 264, 265, 41, 42, 44, 45, 46, 47, 48, 49, 50, 51, 52, 1161, 1162, 1163, 1164, 1165, 1166, 1167, 1206, 1207, 1208, 1189, 1190, 1191, 1192, 1193, 1194, 1195, 1196, 1197, 1198, 1199, 1200, 1201, 1202, 1203, 1204, 1205] (by decide +kernel) (by decide +kernel)) (goodIn_sub (fun _ h => List.mem_append_left _ (List.mem_append_left _ (List.mem_append_right _ h))) (by decide +kernel))
set_option maxRecDepth 20000 in
theorem gL_law_L_undo : GoodIn wsL_law (va_wsS RL 306 yL_undo wsL_undo) := goodIn_app (goodIn_of _ (by decide +kernel)) ggL_law_L_undo
set_option maxRecDepth 20000 in
theorem ggL_law_X6_undo : GoodIn wsL_law wsX6_undo := goodIn_r _ [1098, 404, 271, 273, 360, 361, 362, 5, 363, 364, 369, 370, 371, 372, 1168, 1169, 1170, 1171, 1172, 1173, 1174, 1175, 1176, 1177, 1178, 1179, 1180, 1181, 1182, 1183, 1184, 1185, 1186, 1187, 1188] (by decide +kernel) (by decide +kernel)
set_option maxRecDepth 20000 in
theorem gL_law_X6_undo : GoodIn wsL_law (wsV RL 309 RX6 yX6_undo wsX6_undo) := goodIn_app (goodIn_of _ (by decide +kernel)) ggL_law_X6_undo
set_option maxRecDepth 20000 in
theorem ggL_law_L_save : GoodIn wsL_law wsL_save := goodIn_ca (goodIn_r _ [1101, 380, 1102, 1103, 1104, 2, 1105, 1070, 16, 390, 522, 1071, 1072, 1073, 1074, 386, 387, 1075, 1076, 1077, 1078, 25, 26, 258, 259, 260, 15, 261, 152, 153, 154, 155, 156, 40, 262, 263, 264, 265, 41, 42, 44, 45, 46, 47, 48, 49, 50, 51, 52, 1209, 1210, 1161, 1162, 1163, 1164, 1165, 1166, 1167, 1189, 1190, 1191, 1192, 1193, 1194, 1195, 1196, 1197, 1198, 1199, 1200, 1201, 1202, 1203, 1204, 1205] (by decide +kernel) (by decide +kernel)) (goodIn_sub (fun _ h => List.mem_append_left _ (List.mem_append_right _ h)) (by decide +kernel))
set_option maxRecDepth 20000 in
theorem gL_law_L_save : GoodIn wsL_law (va_wsS RL 310 yL_save wsL_save) := goodIn_app (goodIn_of _ (by decide +kernel)) ggL_law_L_save
set_option maxRecDepth 20000 in
theorem ggL_law_X6_save : GoodIn wsL_law wsX6_save := goodIn_r _ [1109, 274, 271, 405, 406, 407, 5, 408, 360, 361, 362, 363, 364, 369, 370, 371, 372, 1168, 1169, 1170, 1171, 1172, 1173, 1174, 1175, 1176, 1177, 1178, 1179, 1180, 1181, 1182, 1183, 1184, 1185, 1186, 1187, 1188] (by decide +kernel) (by decide +kernel)
set_option maxRecDepth 20000 in
theorem gL_law_X6_save : GoodIn wsL_law (wsV RL 312 RX6 yX6_save wsX6_save) := goodIn_app (goodIn_of _ (by decide +kernel)) ggL_law_X6_save
set_option maxRecDepth 20000 in
theorem ggL_law_X5_writeRing : GoodIn wsL_law wsX5_writeRing := goodIn_r _ [1113, 34, 1114, 16, 391, 606, 618, 630, 1115, 1116, 1117, 33, 1118, 1119, 75, 1120, 1121, 1122, 1123, 1124, 1161, 1162, 1163, 1164, 1165, 1166, 1167, 1221, 1222, 1189, 1190, 1191, 1192, 1193, 1194, 1195, 1196, 1197, 1198, 1199, 1200, 1201, 1202, 1203, 1204, 1205] (by decide +kernel) (by decide +kernel)
set_option maxRecDepth 20000 in
theorem gL_law_X5_writeRing : GoodIn wsL_law (wsV RL 313 RX5 yX5_writeRing wsX5_writeRing) := goodIn_app (goodIn_of _ (by decide +kernel)) ggL_law_X5_writeRing
set_option maxRecDepth 20000 in
theorem ggL_law_X6_writeRing : GoodIn wsL_law wsX6_writeRing := goodIn_r _ [1128, 1129, 271, 324, 325, 326, 5, 327, 289, 290, 291, 282, 283, 284, 1130, 1131, 1132, 1133, 276, 369, 370, 371, 372, 364, 1168, 1169, 1170, 1171, 1172, 1173, 1174, 1175, 1176, 1177, 1178, 1179, 1180, 1181, 1182, 1183, 1184, 1185, 1186, 1187, 1188] (by decide +kernel) (by decide +kernel)
set_option maxRecDepth 20000 in
theorem gL_law_X6_writeRing : GoodIn wsL_law (wsV RL 316 RX6 yX6_writeRing wsX6_writeRing) := goodIn_app (goodIn_of _ (by decide +kernel)) ggL_law_X6_writeRing
set_option maxRecDepth 20000 in
theorem ggL_law_L_writeTrain : GoodIn wsL_law wsL_writeTrain := goodIn_ca (goodIn_r _ [1136, 380, 1137, 1138, 1139, 2, 1140, 16, 722, 34, 1114, 742, 542, 754, 723, 724, 725, 726, 386, 387, 642, 1120, 1121, 1122, 33, 1123, 1124, 1116, 1117, 1118, 1119, 75, 1115, 1161, 1162, 1163, 1164, 1165, 1166, 1167, 1189, 1190, 1191, 1192, 1193, 1194, 1195, 1196, 1197, 1198, 1199, 1200, 1201, 1202, 1203, 1204, 1205, 1221, 1222] (by decide +kernel) (by decide +kernel)) (goodIn_sub (fun _ h => List.mem_append_left _ (List.mem_append_right _ h)) (by decide +kernel))
set_option maxRecDepth 20000 in
theorem gL_law_L_writeTrain : GoodIn wsL_law (va_wsS RL 317 yL_writeTrain wsL_writeTrain) := goodIn_app (goodIn_of _ (by decide +kernel)) ggL_law_L_writeTrain
set_option maxRecDepth 20000 in
theorem ggL_law_X6_writeTrain : GoodIn wsL_law wsX6_writeTrain := goodIn_r _ [1144, 1129, 271, 731, 732, 733, 5, 734, 406, 407, 408, 360, 361, 362, 363, 364, 289, 290, 291, 1145, 1146, 1147, 1148, 1130, 1131, 1132, 1133, 276, 282, 283, 284, 369, 370, 371, 372, 1168, 1169, 1170, 1171, 1172, 1173, 1174, 1175, 1176, 1177, 1178, 1179, 1180, 1181, 1182, 1183, 1184, 1185, 1186, 1187, 1188] (by decide +kernel) (by decide +kernel)
set_option maxRecDepth 20000 in
theorem gL_law_X6_writeTrain : GoodIn wsL_law (wsV RL 319 RX6 yX6_writeTrain wsX6_writeTrain) := goodIn_app (goodIn_of _ (by decide +kernel)) ggL_law_X6_writeTrain
set_option maxRecDepth 20000 in
theorem ggL_law_L_outputByte : GoodIn wsL_law wsL_outputByte := goodIn_ca (goodIn_r _ [1151, 380, 1152, 1153, 1154, 2, 1155, 386, 387, 34, 1114, 1156, 1161, 1162, 1163, 1164, 1165, 1166, 1167, 1221, 1222] (by decide +kernel) (by decide +kernel)) (goodIn_sub (fun _ h => List.mem_append_left _ (List.mem_append_right _ h)) (by decide +kernel))
set_option maxRecDepth 20000 in
theorem gL_law_L_outputByte : GoodIn wsL_law (va_wsS RL 320 yL_outputByte wsL_outputByte) := goodIn_app (goodIn_of _ (by decide +kernel)) ggL_law_L_outputByte
set_option maxRecDepth 20000 in
theorem ggL_law_X6_outputByte : GoodIn wsL_law wsX6_outputByte := goodIn_r _ [1160, 1129, 276, 406, 407, 5, 408, 360, 361, 362, 363, 364, 369, 370, 371, 372, 1168, 1169, 1170, 1171, 1172, 1173, 1174, 1175, 1176, 1177, 1178, 1179, 1180, 1181, 1182, 1183, 1184, 1185, 1186, 1187, 1188] (by decide +kernel) (by decide +kernel)
set_option maxRecDepth 20000 in
theorem gL_law_X6_outputByte : GoodIn wsL_law (wsV RL 322 RX6 yX6_outputByte wsX6_outputByte) := goodIn_app (goodIn_of _ (by decide +kernel)) ggL_law_X6_outputByte
end GL7
