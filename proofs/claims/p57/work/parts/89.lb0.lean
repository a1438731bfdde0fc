section LWB0
set_option maxRecDepth 20000 in
theorem wsL_law0_r1_in : GoodIn lw_tb2 wsL_law0_r1 := goodIn_r _ [49, 50, 26, 136, 51, 52, 53, 54, 55, 56, 57, 58, 27, 406, 407, 138, 139, 28, 408, 158, 159, 29, 409, 410] (by decide +kernel) (by decide +kernel)
set_option maxRecDepth 20000 in
theorem wsL_law0_r2_in : GoodIn lw_tb2 wsL_law0_r2 := goodIn_r _ [174, 175, 30, 411, 216, 217, 31, 412, 188, 60, 61, 62, 76, 78, 81, 137, 82, 85, 87, 90, 92, 94, 96, 98] (by decide +kernel) (by decide +kernel)
set_option maxRecDepth 20000 in
theorem wsL_law0_r3_in : GoodIn lw_tb2 wsL_law0_r3 := goodIn_r _ [100, 140, 141, 142, 143, 144, 147, 161, 162, 163, 164, 166, 177, 178, 179, 215, 182, 186, 180, 187, 219, 220, 221, 222] (by decide +kernel) (by decide +kernel)
set_option maxRecDepth 20000 in
theorem wsL_law0_r4_in : GoodIn lw_tb2 wsL_law0_r4 := goodIn_r _ [229, 230, 231, 232, 233, 234, 235, 32, 236, 909, 237, 238, 239, 240, 241, 910, 243, 244, 245, 246, 247, 248, 249, 250] (by decide +kernel) (by decide +kernel)
set_option maxRecDepth 20000 in
theorem wsL_law0_r5_in : GoodIn lw_tb2 wsL_law0_r5 := goodIn_r _ [251, 252, 33, 253, 254, 255, 256, 257, 259, 260, 34, 261, 262, 263, 35, 264, 265, 266, 267, 268, 269, 270, 271, 272] (by decide +kernel) (by decide +kernel)
set_option maxRecDepth 20000 in
theorem wsL_law0_r6_in : GoodIn lw_tb2 wsL_law0_r6 := goodIn_r _ [273, 274, 275, 277, 279, 281, 283, 6, 284, 183, 285, 286, 287, 288, 289, 290, 291, 36, 292, 189, 185, 190, 191, 192] (by decide +kernel) (by decide +kernel)
set_option maxRecDepth 20000 in
theorem wsL_law0_r7_in : GoodIn lw_tb2 wsL_law0_r7 := goodIn_r _ [293, 294, 295, 296, 63, 66, 69, 72, 74, 297, 299, 7, 300, 193, 301, 303, 8, 304, 306, 308, 9, 309, 310, 312] (by decide +kernel) (by decide +kernel)
set_option maxRecDepth 20000 in
theorem wsL_law0_r8_in : GoodIn lw_tb2 wsL_law0_r8 := goodIn_r _ [10, 313, 314, 316, 11, 317, 65, 68, 319, 321, 12, 322, 323, 325, 13, 326, 328, 329, 330, 331, 333, 335, 14, 336] (by decide +kernel) (by decide +kernel)
end LWB0
