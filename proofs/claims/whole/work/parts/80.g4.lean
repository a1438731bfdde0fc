section GL4
set_option maxRecDepth 20000 in
theorem ggL_law_L_passages : GoodIn wsL_law wsL_passages := goodIn_ca (goodIn_r _ [797, 380, 798, 799, 800, 2, 801, 16, 723, 724, 725, 726, 386, 387, 642, 543, 544, 545, 546, 391, 643, 644, 645, 15, 646, 52, 1161, 1162, 1163, 1164, 1165, 1166, 1167, 1189, 1190, 1191, 1192, 1193, 1194, 1195, 1196, 1197, 1198, 1199, 1200, 1201, 1202, 1203, 1204, 1205] (by decide +kernel) (by decide +kernel)) (goodIn_sub (fun _ h => List.mem_append_left _ (List.mem_append_right _ h)) (by decide +kernel))
set_option maxRecDepth 20000 in
theorem gL_law_L_passages : GoodIn wsL_law (va_wsS RL 226 yL_passages wsL_passages) := goodIn_app (goodIn_of _ (by decide +kernel)) ggL_law_L_passages
set_option maxRecDepth 20000 in
theorem ggL_law_X6_passages : GoodIn wsL_law wsX6_passages := goodIn_r _ [805, 271, 731, 732, 733, 5, 734, 406, 407, 408, 551, 552, 553, 554, 360, 361, 362, 363, 364, 332, 333, 334, 369, 370, 371, 372, 1168, 1169, 1170, 1171, 1172, 1173, 1174, 1175, 1176, 1177, 1178, 1179, 1180, 1181, 1182, 1183, 1184, 1185, 1186, 1187, 1188] (by decide +kernel) (by decide +kernel)
set_option maxRecDepth 20000 in
theorem gL_law_X6_passages : GoodIn wsL_law (wsV RL 229 RX6 yX6_passages wsX6_passages) := goodIn_app (goodIn_of _ (by decide +kernel)) ggL_law_X6_passages
set_option maxRecDepth 20000 in
theorem ggL_law_X5_differentPassages : GoodIn wsL_law wsX5_differentPassages := goodIn_r _ [809, 16, 642, 391, 643, 644, 645, 15, 646, 52, 1161, 1162, 1163, 1164, 1165, 1166, 1167, 1189, 1190, 1191, 1192, 1193, 1194, 1195, 1196, 1197, 1198, 1199, 1200, 1201, 1202, 1203, 1204, 1205] (by decide +kernel) (by decide +kernel)
set_option maxRecDepth 20000 in
theorem gL_law_X5_differentPassages : GoodIn wsL_law (wsV RL 230 RX5 yX5_differentPassages wsX5_differentPassages) := goodIn_app (goodIn_of _ (by decide +kernel)) ggL_law_X5_differentPassages
set_option maxRecDepth 20000 in
theorem ggL_law_X6_differentPassages : GoodIn wsL_law wsX6_differentPassages := goodIn_r _ [813, 271, 332, 333, 5, 334, 369, 370, 371, 372, 364, 1168, 1169, 1170, 1171, 1172, 1173, 1174, 1175, 1176, 1177, 1178, 1179, 1180, 1181, 1182, 1183, 1184, 1185, 1186, 1187, 1188] (by decide +kernel) (by decide +kernel)
set_option maxRecDepth 20000 in
theorem gL_law_X6_differentPassages : GoodIn wsL_law (wsV RL 233 RX6 yX6_differentPassages wsX6_differentPassages) := goodIn_app (goodIn_of _ (by decide +kernel)) ggL_law_X6_differentPassages
set_option maxRecDepth 20000 in
theorem ggL_law_L_ticksToEnd : GoodIn wsL_law wsL_ticksToEnd := goodIn_ca (goodIn_r _ [816, 380, 817, 818, 819, 2, 820, 16, 542, 722, 742, 723, 724, 725, 726, 386, 387, 642, 778, 215, 216, 15, 217, 50, 47, 213, 140, 141, 142, 218, 219, 220, 221, 42, 1161, 1162, 1163, 1164, 1165, 1166, 1167, 1189, 1190, 1191, 1192, 1193, 1194, 1195, 1196, 1197, 1198, 1199, 1200, 1201, 1202, 1203, 1204, 1205] (by decide +kernel) (by decide +kernel)) (goodIn_sub (fun _ h => List.mem_append_left _ (List.mem_append_right _ h)) (by decide +kernel))
set_option maxRecDepth 20000 in
theorem gL_law_L_ticksToEnd : GoodIn wsL_law (va_wsS RL 234 yL_ticksToEnd wsL_ticksToEnd) := goodIn_app (goodIn_of _ (by decide +kernel)) ggL_law_L_ticksToEnd
set_option maxRecDepth 20000 in
theorem ggL_law_X6_ticksToEnd : GoodIn wsL_law wsX6_ticksToEnd := goodIn_r _ [824, 271, 731, 732, 733, 5, 734, 406, 407, 408, 360, 361, 362, 363, 364, 289, 290, 291, 282, 283, 284, 304, 305, 306, 307, 369, 370, 371, 372, 1168, 1169, 1170, 1171, 1172, 1173, 1174, 1175, 1176, 1177, 1178, 1179, 1180, 1181, 1182, 1183, 1184, 1185, 1186, 1187, 1188] (by decide +kernel) (by decide +kernel)
set_option maxRecDepth 20000 in
theorem gL_law_X6_ticksToEnd : GoodIn wsL_law (wsV RL 236 RX6 yX6_ticksToEnd wsX6_ticksToEnd) := goodIn_app (goodIn_of _ (by decide +kernel)) ggL_law_X6_ticksToEnd
set_option maxRecDepth 20000 in
theorem ggL_law_L_trainAhead : GoodIn wsL_law wsL_trainAhead := goodIn_ca (goodIn_r _ [827, 380, 828, 829, 830, 2, 831, 16, 722, 391, 618, 723, 724, 725, 726, 386, 387, 642, 832, 223, 224, 15, 225, 153, 1161, 1162, 1163, 1164, 1165, 1166, 1167, 1189, 1190, 1191, 1192, 1193, 1194, 1195, 1196, 1197, 1198, 1199, 1200, 1201, 1202, 1203, 1204, 1205] (by decide +kernel) (by decide +kernel)) (goodIn_sub (fun _ h => List.mem_append_left _ (List.mem_append_right _ h)) (by decide +kernel))
set_option maxRecDepth 20000 in
theorem gL_law_L_trainAhead : GoodIn wsL_law (va_wsS RL 237 yL_trainAhead wsL_trainAhead) := goodIn_app (goodIn_of _ (by decide +kernel)) ggL_law_L_trainAhead
set_option maxRecDepth 20000 in
theorem ggL_law_X6_trainAhead : GoodIn wsL_law wsX6_trainAhead := goodIn_r _ [836, 271, 731, 732, 733, 5, 734, 406, 407, 408, 360, 361, 362, 363, 364, 289, 290, 291, 316, 317, 318, 319, 324, 325, 326, 327, 369, 370, 371, 372, 1168, 1169, 1170, 1171, 1172, 1173, 1174, 1175, 1176, 1177, 1178, 1179, 1180, 1181, 1182, 1183, 1184, 1185, 1186, 1187, 1188] (by decide +kernel) (by decide +kernel)
set_option maxRecDepth 20000 in
theorem gL_law_X6_trainAhead : GoodIn wsL_law (wsV RL 239 RX6 yX6_trainAhead wsX6_trainAhead) := goodIn_app (goodIn_of _ (by decide +kernel)) ggL_law_X6_trainAhead
set_option maxRecDepth 20000 in
theorem ggL_law_L_clearBlocksAhead : GoodIn wsL_law wsL_clearBlocksAhead := goodIn_ca (goodIn_r _ [839, 380, 840, 841, 842, 2, 843, 16, 722, 391, 723, 724, 725, 726, 386, 387, 642, 832, 223, 224, 15, 225, 153, 675, 198, 199, 200, 46, 45, 1161, 1162, 1163, 1164, 1165, 1166, 1167, 1189, 1190, 1191, 1192, 1193, 1194, 1195, 1196, 1197, 1198, 1199, 1200, 1201, 1202, 1203, 1204, 1205] (by decide +kernel) (by decide +kernel)) (goodIn_sub (fun _ h => List.mem_append_left _ (List.mem_append_right _ h)) (by decide +kernel))
set_option maxRecDepth 20000 in
theorem gL_law_L_clearBlocksAhead : GoodIn wsL_law (va_wsS RL 240 yL_clearBlocksAhead wsL_clearBlocksAhead) := goodIn_app (goodIn_of _ (by decide +kernel)) ggL_law_L_clearBlocksAhead
set_option maxRecDepth 20000 in
theorem ggL_law_X6_clearBlocksAhead : GoodIn wsL_law wsX6_clearBlocksAhead := goodIn_r _ [847, 271, 731, 732, 733, 5, 734, 406, 407, 408, 360, 361, 362, 363, 364, 289, 290, 291, 316, 317, 318, 319, 320, 321, 322, 323, 324, 325, 326, 327, 282, 283, 284, 369, 370, 371, 372, 1168, 1169, 1170, 1171, 1172, 1173, 1174, 1175, 1176, 1177, 1178, 1179, 1180, 1181, 1182, 1183, 1184, 1185, 1186, 1187, 1188] (by decide +kernel) (by decide +kernel)
set_option maxRecDepth 20000 in
theorem gL_law_X6_clearBlocksAhead : GoodIn wsL_law (wsV RL 242 RX6 yX6_clearBlocksAhead wsX6_clearBlocksAhead) := goodIn_app (goodIn_of _ (by decide +kernel)) ggL_law_X6_clearBlocksAhead
set_option maxRecDepth 20000 in
theorem ggL_law_L_canEnter : GoodIn wsL_law wsL_canEnter := goodIn_ca (goodIn_r _ [850, 380, 851, 852, 853, 2, 854, 16, 722, 723, 724, 725, 726, 386, 387, 642, 832, 223, 224, 15, 225, 153, 855, 227, 228, 229, 44, 230, 198, 199, 200, 46, 45, 1161, 1162, 1163, 1164, 1165, 1166, 1167, 1189, 1190, 1191, 1192, 1193, 1194, 1195, 1196, 1197, 1198, 1199, 1200, 1201, 1202, 1203, 1204, 1205] (by decide +kernel) (by decide +kernel)) (goodIn_sub (fun _ h => List.mem_append_left _ (List.mem_append_right _ h)) (by decide +kernel))
set_option maxRecDepth 20000 in
theorem gL_law_L_canEnter : GoodIn wsL_law (va_wsS RL 243 yL_canEnter wsL_canEnter) := goodIn_app (goodIn_of _ (by decide +kernel)) ggL_law_L_canEnter
set_option maxRecDepth 20000 in
theorem ggL_law_X6_canEnter : GoodIn wsL_law wsX6_canEnter := goodIn_r _ [859, 731, 732, 733, 5, 734, 271, 406, 407, 408, 579, 580, 581, 582, 364, 312, 313, 314, 315, 289, 290, 291, 316, 317, 318, 319, 282, 283, 284, 320, 321, 322, 323, 324, 325, 326, 327, 583, 584, 585, 586, 1168, 1169, 1170, 1171, 1172, 1173, 1174, 1175, 1176, 1177, 1178, 1179, 1180, 1181, 1182, 1183, 1184, 1185, 1186, 1187, 1188] (by decide +kernel) (by decide +kernel)
set_option maxRecDepth 20000 in
theorem gL_law_X6_canEnter : GoodIn wsL_law (wsV RL 245 RX6 yX6_canEnter wsX6_canEnter) := goodIn_app (goodIn_of _ (by decide +kernel)) ggL_law_X6_canEnter
set_option maxRecDepth 20000 in
theorem ggL_law_L_blockAfter : GoodIn wsL_law wsL_blockAfter := goodIn_ca (goodIn_ca (goodIn_r _ [862, 380, 381, 863, 864, 865, 2, 866, 388, 389, 17, 16, 722, 723, 724, 725, 726, 386, 387, 642, 258, 259, 260, 15, 261, 152, 153, 154, 155, 156, 40, 262, 263, 264, 265, 41, 42, 44, 45, 46, 47, 48, 49, 50, 51, 52, 867, 206, 207, 208, 209, 210, 211, 212, 213, 140, 141, 142, 214, 215, 216, 217, 218, 219, 220, 221, 222, 223, 224, 225, 226, 227, 228, 229, 230, 198, 199, 200, 231, 232, 233, 234, 1161, 1162, 1163, 1164, 1165, 1166, 1167, 1189, 1190, 1191, 1192, 1193, 1194, 1195, 1196, 1197, 1198, 1199, 1200, 1201, 1202, 1203, 1204, 1205] (by decide +kernel) (by decide +kernel)) (goodIn_sub (fun _ h => List.mem_append_right _ h) (by decide +kernel))) (goodIn_sub (fun _ h => List.mem_append_left _ (List.mem_append_right _ h)) (by decide +kernel))
set_option maxRecDepth 20000 in
theorem gL_law_L_blockAfter : GoodIn wsL_law (va_wsS RL 246 yL_blockAfter wsL_blockAfter) := goodIn_app (goodIn_of _ (by decide +kernel)) ggL_law_L_blockAfter
set_option maxRecDepth 20000 in
theorem ggL_law_X6_blockAfter : GoodIn wsL_law wsX6_blockAfter := goodIn_r _ [871, 271, 731, 732, 733, 5, 734, 406, 407, 408, 360, 361, 362, 363, 364, 409, 410, 411, 412, 272, 292, 293, 294, 295, 296, 297, 298, 299, 300, 301, 302, 303, 289, 290, 291, 282, 283, 284, 304, 305, 306, 307, 308, 309, 310, 311, 312, 313, 314, 315, 316, 317, 318, 319, 320, 321, 322, 323, 324, 325, 326, 327, 328, 329, 330, 331, 332, 333, 334, 496, 497, 498, 499, 369, 370, 371, 372, 1168, 1169, 1170, 1171, 1172, 1173, 1174, 1175, 1176, 1177, 1178, 1179, 1180, 1181, 1182, 1183, 1184, 1185, 1186, 1187, 1188] (by decide +kernel) (by decide +kernel)
set_option maxRecDepth 20000 in
theorem gL_law_X6_blockAfter : GoodIn wsL_law (wsV RL 248 RX6 yX6_blockAfter wsX6_blockAfter) := goodIn_app (goodIn_of _ (by decide +kernel)) ggL_law_X6_blockAfter
end GL4
