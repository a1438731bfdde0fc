section LWB4
theorem wsL_law0_r29_in : GoodIn lw_tb2 wsL_law0_r29 := goodIn_app wsL_law0_r29_a (goodIn_app wsL_law0_r29_b wsL_law0_r29_c)
set_option maxRecDepth 20000 in
theorem wsL_law0_r30_in : GoodIn lw_tb2 wsL_law0_r30 := goodIn_r _ [1093, 1109, 1110, 1111, 1112, 1018, 1019, 1020, 1021, 1014, 1015, 1016, 1017, 1027, 1028, 1029, 1030, 1002, 1003, 1004, 1005, 980, 981, 982] (by decide +kernel) (by decide +kernel)
set_option maxRecDepth 20000 in
theorem wsL_law0_r31_in : GoodIn lw_tb2 wsL_law0_r31 := goodIn_r _ [983, 984, 985, 986, 987, 988, 989, 990, 999, 1000, 1001, 991, 992, 993, 994, 995, 996, 997, 998, 1006, 1007, 1008, 1009, 1010] (by decide +kernel) (by decide +kernel)
set_option maxRecDepth 20000 in
theorem wsL_law0_r32_in : GoodIn lw_tb2 wsL_law0_r32 := goodIn_r _ [1011, 1012, 1013, 1022, 1023, 1024, 1025, 1026, 1031, 1032, 1033, 1034, 1035, 1036, 1037, 1038, 1039, 1040, 1041, 1042, 1043, 1044, 1045, 1046] (by decide +kernel) (by decide +kernel)
set_option maxRecDepth 20000 in
theorem wsL_law0_r33_in : GoodIn lw_tb2 wsL_law0_r33 := goodIn_r _ [1047, 1048, 1049, 1050, 1051, 1052, 1053, 1054, 1055, 1056, 1057, 1058, 1059, 1060, 1061, 1062, 1063, 1064, 1065, 1066, 77, 1067, 1068, 1069] (by decide +kernel) (by decide +kernel)
set_option maxRecDepth 20000 in
theorem wsL_law0_r34_in : GoodIn lw_tb2 wsL_law0_r34 := goodIn_r _ [1070, 1071, 1072, 1073, 1074, 1075, 1076, 1077, 1078, 1079, 1080, 1081, 1082, 1083, 1084, 1085, 1086, 1087, 1088, 1089, 1094, 1095, 1096, 1097] (by decide +kernel) (by decide +kernel)
set_option maxRecDepth 20000 in
theorem wsL_law0_r35_in : GoodIn lw_tb2 wsL_law0_r35 := goodIn_r _ [1098, 1099, 1100, 1101, 1102, 1103, 1104, 1105, 585, 586, 587, 589, 590, 591, 592, 150, 594, 595, 596, 597, 428, 429, 430, 431] (by decide +kernel) (by decide +kernel)
end LWB4
