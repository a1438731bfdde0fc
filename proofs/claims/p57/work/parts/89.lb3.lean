section LWB3
set_option maxRecDepth 20000 in
theorem wsL_law0_r25_in : GoodIn lw_tb2 wsL_law0_r25 := goodIn_r _ [943, 84, 944, 945, 946, 947, 86, 948, 949, 950, 951, 71, 952, 953, 954, 955, 91, 656, 658, 24, 659, 956, 957, 958] (by decide +kernel) (by decide +kernel)
set_option maxRecDepth 20000 in
theorem wsL_law0_r26_in : GoodIn lw_tb2 wsL_law0_r26 := goodIn_r _ [959, 93, 960, 961, 962, 963, 95, 964, 965, 966, 967, 97, 968, 969, 970, 971, 99, 972, 973, 974, 975, 976, 977, 978] (by decide +kernel) (by decide +kernel)
set_option maxRecDepth 20000 in
theorem wsL_law0_r27_in : GoodIn lw_tb2 wsL_law0_r27 := goodIn_r _ [979, 598, 599, 600, 588, 601, 602, 603, 604, 523, 524, 525, 526, 148, 528, 527, 607, 608, 609, 610, 611, 612, 613, 614] (by decide +kernel) (by decide +kernel)
set_option maxRecDepth 20000 in
theorem wsL_law0_r28_in : GoodIn lw_tb2 wsL_law0_r28 := goodIn_r _ [620, 622, 623, 624, 625, 626, 627, 628, 629, 630, 631, 632, 634, 635, 636, 637, 638, 639, 640, 89, 642, 643, 644, 645] (by decide +kernel) (by decide +kernel)
set_option maxRecDepth 20000 in
theorem wsL_law0_r29_a : GoodIn lw_tb2 [Cond.instanceMethod yX5_removeWagons, Cond.selects RX5 yX5_removeWagons yX5_removeWagons, Cond.code yX5_removeWagons cX5_removeWagons 3 (some .int), Cond.methodLink RL 241 yL_added, Cond.static yL_added, Cond.codeWith yL_added cL_added 4 (some .int) [(0, 6, 7, 34), (0, 6, 11, 36), (0, 6, 15, 41)], Cond.methodLink RL 58 yX5_addWagons, Cond.instanceMethod yX5_addWagons, Cond.selects RX5 yX5_addWagons yX5_addWagons, Cond.code yX5_addWagons cX5_addWagons 3 (some .int), Cond.fieldLink RX5 204 "PeatRailway$State" "added" "I", Cond.methodLink RL 245 yL_timed, Cond.static yL_timed, Cond.codeWith yL_timed cL_timed 4 (some .int) [(0, 6, 7, 34), (0, 6, 11, 36)], Cond.methodLink RL 62 yX5_setTopSpeed, Cond.instanceMethod yX5_setTopSpeed, Cond.selects RX5 yX5_setTopSpeed yX5_setTopSpeed, Cond.code yX5_setTopSpeed cX5_setTopSpeed 4 (some .int), Cond.methodLink RL 261 yL_act, Cond.static yL_act] := goodIn_r _ [646, 647, 648, 649, 650, 651, 652, 653, 654, 655, 75, 663, 664, 665, 666, 667, 668, 669, 1106, 1107] (by decide +kernel) (by decide +kernel)
set_option maxRecDepth 20000 in
theorem wsL_law0_r29_c : GoodIn lw_tb2 [Cond.methodLink RL 209 yX5_blockAfter, Cond.instanceMethod yX5_blockAfter, Cond.selects RX5 yX5_blockAfter yX5_blockAfter] := goodIn_r _ [1090, 1091, 1092] (by decide +kernel) (by decide +kernel)
set_option maxRecDepth 20000 in
theorem wsL_law0_r29_b0 : lw_tb2[1108]? = some (Cond.code yL_act cL_act 25 (some .boolean)) := by rfl
set_option maxRecDepth 20000 in
theorem wsL_law0_r29_b : GoodIn lw_tb2 [Cond.code yL_act cL_act 25 (some .boolean)] := goodIn_sub (fun w h => (List.mem_singleton.mp h) ▸ List.mem_of_getElem? wsL_law0_r29_b0) (by decide +kernel)
end LWB3
