section GL3
set_option maxRecDepth 20000 in
theorem ggL_law_X5_trainCount : GoodIn wsL_law wsX5_trainCount := goodIn_r _ [710, 16, 642, 1161, 1162, 1163, 1164, 1165, 1166, 1167, 1189, 1190, 1191, 1192, 1193, 1194, 1195, 1196, 1197, 1198, 1199, 1200, 1201, 1202, 1203, 1204, 1205] (by decide +kernel) (by decide +kernel)
set_option maxRecDepth 20000 in
theorem gL_law_X5_trainCount : GoodIn wsL_law (wsV RL 204 RX5 yX5_trainCount wsX5_trainCount) := goodIn_app (goodIn_of _ (by decide +kernel)) ggL_law_X5_trainCount
set_option maxRecDepth 20000 in
theorem ggL_law_X6_trainCount : GoodIn wsL_law wsX6_trainCount := goodIn_r _ [714, 271, 369, 370, 371, 5, 372, 364, 1168, 1169, 1170, 1171, 1172, 1173, 1174, 1175, 1176, 1177, 1178, 1179, 1180, 1181, 1182, 1183, 1184, 1185, 1186, 1187, 1188] (by decide +kernel) (by decide +kernel)
set_option maxRecDepth 20000 in
theorem gL_law_X6_trainCount : GoodIn wsL_law (wsV RL 207 RX6 yX6_trainCount wsX6_trainCount) := goodIn_app (goodIn_of _ (by decide +kernel)) ggL_law_X6_trainCount
set_option maxRecDepth 20000 in
theorem ggL_law_L_blockOf : GoodIn wsL_law wsL_blockOf := goodIn_ca (goodIn_r _ [717, 380, 718, 719, 720, 2, 721, 16, 722, 723, 724, 725, 726, 386, 387, 642, 1161, 1162, 1163, 1164, 1165, 1166, 1167, 1189, 1190, 1191, 1192, 1193, 1194, 1195, 1196, 1197, 1198, 1199, 1200, 1201, 1202, 1203, 1204, 1205] (by decide +kernel) (by decide +kernel)) (goodIn_sub (fun _ h => List.mem_append_left _ (List.mem_append_right _ h)) (by decide +kernel))
set_option maxRecDepth 20000 in
theorem gL_law_L_blockOf : GoodIn wsL_law (va_wsS RL 208 yL_blockOf wsL_blockOf) := goodIn_app (goodIn_of _ (by decide +kernel)) ggL_law_L_blockOf
set_option maxRecDepth 20000 in
theorem ggL_law_X6_blockOf : GoodIn wsL_law wsX6_blockOf := goodIn_r _ [730, 271, 731, 732, 733, 5, 734, 406, 407, 408, 360, 361, 362, 363, 364, 289, 290, 291, 369, 370, 371, 372, 1168, 1169, 1170, 1171, 1172, 1173, 1174, 1175, 1176, 1177, 1178, 1179, 1180, 1181, 1182, 1183, 1184, 1185, 1186, 1187, 1188] (by decide +kernel) (by decide +kernel)
set_option maxRecDepth 20000 in
theorem gL_law_X6_blockOf : GoodIn wsL_law (wsV RL 210 RX6 yX6_blockOf wsX6_blockOf) := goodIn_app (goodIn_of _ (by decide +kernel)) ggL_law_X6_blockOf
set_option maxRecDepth 20000 in
theorem ggL_law_L_positionOf : GoodIn wsL_law wsL_positionOf := goodIn_ca (goodIn_r _ [737, 380, 738, 739, 740, 2, 741, 16, 742, 723, 724, 725, 726, 386, 387, 642, 1161, 1162, 1163, 1164, 1165, 1166, 1167, 1189, 1190, 1191, 1192, 1193, 1194, 1195, 1196, 1197, 1198, 1199, 1200, 1201, 1202, 1203, 1204, 1205] (by decide +kernel) (by decide +kernel)) (goodIn_sub (fun _ h => List.mem_append_left _ (List.mem_append_right _ h)) (by decide +kernel))
set_option maxRecDepth 20000 in
theorem gL_law_L_positionOf : GoodIn wsL_law (va_wsS RL 211 yL_positionOf wsL_positionOf) := goodIn_app (goodIn_of _ (by decide +kernel)) ggL_law_L_positionOf
set_option maxRecDepth 20000 in
theorem ggL_law_X6_positionOf : GoodIn wsL_law wsX6_positionOf := goodIn_r _ [746, 271, 731, 732, 733, 5, 734, 406, 407, 408, 360, 361, 362, 363, 364, 289, 290, 291, 369, 370, 371, 372, 1168, 1169, 1170, 1171, 1172, 1173, 1174, 1175, 1176, 1177, 1178, 1179, 1180, 1181, 1182, 1183, 1184, 1185, 1186, 1187, 1188] (by decide +kernel) (by decide +kernel)
set_option maxRecDepth 20000 in
theorem gL_law_X6_positionOf : GoodIn wsL_law (wsV RL 213 RX6 yX6_positionOf wsX6_positionOf) := goodIn_app (goodIn_of _ (by decide +kernel)) ggL_law_X6_positionOf
set_option maxRecDepth 20000 in
theorem ggL_law_L_wagonsOf : GoodIn wsL_law wsL_wagonsOf := goodIn_ca (goodIn_r _ [749, 380, 750, 751, 752, 2, 753, 16, 754, 723, 724, 725, 726, 386, 387, 642, 1161, 1162, 1163, 1164, 1165, 1166, 1167, 1189, 1190, 1191, 1192, 1193, 1194, 1195, 1196, 1197, 1198, 1199, 1200, 1201, 1202, 1203, 1204, 1205] (by decide +kernel) (by decide +kernel)) (goodIn_sub (fun _ h => List.mem_append_left _ (List.mem_append_right _ h)) (by decide +kernel))
set_option maxRecDepth 20000 in
theorem gL_law_L_wagonsOf : GoodIn wsL_law (va_wsS RL 214 yL_wagonsOf wsL_wagonsOf) := goodIn_app (goodIn_of _ (by decide +kernel)) ggL_law_L_wagonsOf
set_option maxRecDepth 20000 in
theorem ggL_law_X6_wagonsOf : GoodIn wsL_law wsX6_wagonsOf := goodIn_r _ [758, 271, 731, 732, 733, 5, 734, 406, 407, 408, 360, 361, 362, 363, 364, 289, 290, 291, 369, 370, 371, 372, 1168, 1169, 1170, 1171, 1172, 1173, 1174, 1175, 1176, 1177, 1178, 1179, 1180, 1181, 1182, 1183, 1184, 1185, 1186, 1187, 1188] (by decide +kernel) (by decide +kernel)
set_option maxRecDepth 20000 in
theorem gL_law_X6_wagonsOf : GoodIn wsL_law (wsV RL 216 RX6 yX6_wagonsOf wsX6_wagonsOf) := goodIn_app (goodIn_of _ (by decide +kernel)) ggL_law_X6_wagonsOf
set_option maxRecDepth 20000 in
theorem ggL_law_L_topSpeedOf : GoodIn wsL_law wsL_topSpeedOf := goodIn_ca (goodIn_r _ [761, 380, 762, 763, 764, 2, 765, 16, 766, 723, 724, 725, 726, 386, 387, 642, 1161, 1162, 1163, 1164, 1165, 1166, 1167, 1189, 1190, 1191, 1192, 1193, 1194, 1195, 1196, 1197, 1198, 1199, 1200, 1201, 1202, 1203, 1204, 1205] (by decide +kernel) (by decide +kernel)) (goodIn_sub (fun _ h => List.mem_append_left _ (List.mem_append_right _ h)) (by decide +kernel))
set_option maxRecDepth 20000 in
theorem gL_law_L_topSpeedOf : GoodIn wsL_law (va_wsS RL 217 yL_topSpeedOf wsL_topSpeedOf) := goodIn_app (goodIn_of _ (by decide +kernel)) ggL_law_L_topSpeedOf
set_option maxRecDepth 20000 in
theorem ggL_law_X6_topSpeedOf : GoodIn wsL_law wsX6_topSpeedOf := goodIn_r _ [770, 271, 731, 732, 733, 5, 734, 406, 407, 408, 360, 361, 362, 363, 364, 289, 290, 291, 369, 370, 371, 372, 1168, 1169, 1170, 1171, 1172, 1173, 1174, 1175, 1176, 1177, 1178, 1179, 1180, 1181, 1182, 1183, 1184, 1185, 1186, 1187, 1188] (by decide +kernel) (by decide +kernel)
set_option maxRecDepth 20000 in
theorem gL_law_X6_topSpeedOf : GoodIn wsL_law (wsV RL 219 RX6 yX6_topSpeedOf wsX6_topSpeedOf) := goodIn_app (goodIn_of _ (by decide +kernel)) ggL_law_X6_topSpeedOf
set_option maxRecDepth 20000 in
theorem ggL_law_L_speedOf : GoodIn wsL_law wsL_speedOf := goodIn_ca (goodIn_r _ [773, 380, 774, 775, 776, 2, 777, 16, 723, 724, 725, 726, 386, 387, 642, 778, 215, 216, 15, 217, 50, 47, 213, 140, 141, 142, 218, 219, 220, 221, 42, 1161, 1162, 1163, 1164, 1165, 1166, 1167, 1189, 1190, 1191, 1192, 1193, 1194, 1195, 1196, 1197, 1198, 1199, 1200, 1201, 1202, 1203, 1204, 1205] (by decide +kernel) (by decide +kernel)) (goodIn_sub (fun _ h => List.mem_append_left _ (List.mem_append_right _ h)) (by decide +kernel))
set_option maxRecDepth 20000 in
theorem gL_law_L_speedOf : GoodIn wsL_law (va_wsS RL 220 yL_speedOf wsL_speedOf) := goodIn_app (goodIn_of _ (by decide +kernel)) ggL_law_L_speedOf
set_option maxRecDepth 20000 in
theorem ggL_law_X6_speedOf : GoodIn wsL_law wsX6_speedOf := goodIn_r _ [782, 731, 732, 733, 5, 734, 271, 406, 407, 408, 360, 361, 362, 363, 364, 304, 305, 306, 307, 289, 290, 291, 282, 283, 284, 369, 370, 371, 372, 1168, 1169, 1170, 1171, 1172, 1173, 1174, 1175, 1176, 1177, 1178, 1179, 1180, 1181, 1182, 1183, 1184, 1185, 1186, 1187, 1188] (by decide +kernel) (by decide +kernel)
set_option maxRecDepth 20000 in
theorem gL_law_X6_speedOf : GoodIn wsL_law (wsV RL 222 RX6 yX6_speedOf wsX6_speedOf) := goodIn_app (goodIn_of _ (by decide +kernel)) ggL_law_X6_speedOf
set_option maxRecDepth 20000 in
theorem ggL_law_L_waitsOf : GoodIn wsL_law wsL_waitsOf := goodIn_ca (goodIn_r _ [785, 380, 786, 787, 788, 2, 789, 16, 790, 723, 724, 725, 726, 386, 387, 642, 1161, 1162, 1163, 1164, 1165, 1166, 1167, 1189, 1190, 1191, 1192, 1193, 1194, 1195, 1196, 1197, 1198, 1199, 1200, 1201, 1202, 1203, 1204, 1205] (by decide +kernel) (by decide +kernel)) (goodIn_sub (fun _ h => List.mem_append_left _ (List.mem_append_right _ h)) (by decide +kernel))
set_option maxRecDepth 20000 in
theorem gL_law_L_waitsOf : GoodIn wsL_law (va_wsS RL 223 yL_waitsOf wsL_waitsOf) := goodIn_app (goodIn_of _ (by decide +kernel)) ggL_law_L_waitsOf
set_option maxRecDepth 20000 in
theorem ggL_law_X6_waitsOf : GoodIn wsL_law wsX6_waitsOf := goodIn_r _ [794, 271, 731, 732, 733, 5, 734, 406, 407, 408, 360, 361, 362, 363, 364, 289, 290, 291, 369, 370, 371, 372, 1168, 1169, 1170, 1171, 1172, 1173, 1174, 1175, 1176, 1177, 1178, 1179, 1180, 1181, 1182, 1183, 1184, 1185, 1186, 1187, 1188] (by decide +kernel) (by decide +kernel)
set_option maxRecDepth 20000 in
theorem gL_law_X6_waitsOf : GoodIn wsL_law (wsV RL 225 RX6 yX6_waitsOf wsX6_waitsOf) := goodIn_app (goodIn_of _ (by decide +kernel)) ggL_law_X6_waitsOf
end GL3
