section LWB2
set_option maxRecDepth 20000 in
theorem wsL_law0_r17_in : GoodIn lw_tb2 wsL_law0_r17 := goodIn_r _ [776, 777, 778, 779, 780, 781, 782, 783, 784, 785, 786, 787, 788, 789, 790, 791, 792, 793, 794, 795, 809, 810, 811, 812] (by decide +kernel) (by decide +kernel)
set_option maxRecDepth 20000 in
theorem wsL_law0_r18_in : GoodIn lw_tb2 wsL_law0_r18 := goodIn_r _ [813, 814, 1120, 815, 816, 817, 818, 42, 819, 820, 821, 822, 823, 825, 827, 828, 829, 830, 831, 832, 833, 834, 835, 836] (by decide +kernel) (by decide +kernel)
set_option maxRecDepth 20000 in
theorem wsL_law0_r19_in : GoodIn lw_tb2 wsL_law0_r19 := goodIn_r _ [837, 838, 839, 1121, 840, 841, 842, 843, 844, 845, 846, 847, 850, 851, 852, 853, 854, 855, 856, 857, 858, 859, 860, 861] (by decide +kernel) (by decide +kernel)
set_option maxRecDepth 20000 in
theorem wsL_law0_r20_in : GoodIn lw_tb2 wsL_law0_r20 := goodIn_r _ [862, 798, 863, 865, 866, 864, 867, 868, 870, 869, 871, 872, 873, 874, 869, 875, 876, 877, 878, 879, 880, 881, 882, 883] (by decide +kernel) (by decide +kernel)
set_option maxRecDepth 20000 in
theorem wsL_law0_r21_in : GoodIn lw_tb2 wsL_law0_r21 := goodIn_r _ [884, 885, 887, 899, 900, 901, 902, 903, 904, 905, 906, 907, 908, 537, 538, 539, 540, 541, 542, 543, 544, 545, 546, 547] (by decide +kernel) (by decide +kernel)
set_option maxRecDepth 20000 in
theorem wsL_law0_r22_in : GoodIn lw_tb2 wsL_law0_r22 := goodIn_r _ [548, 549, 550, 507, 47, 184, 551, 552, 553, 554, 556, 557, 558, 559, 560, 561, 562, 563, 436, 48, 565, 46, 168, 67] (by decide +kernel) (by decide +kernel)
set_option maxRecDepth 20000 in
theorem wsL_law0_r23_in : GoodIn lw_tb2 wsL_law0_r23 := goodIn_r _ [581, 582, 583, 584, 149, 529, 530, 531, 532, 167, 64, 432, 434, 20, 435, 503, 505, 22, 506, 920, 921, 922, 923, 924] (by decide +kernel) (by decide +kernel)
set_option maxRecDepth 20000 in
theorem wsL_law0_r24_in : GoodIn lw_tb2 wsL_law0_r24 := goodIn_r _ [925, 926, 927, 928, 929, 930, 931, 73, 932, 933, 934, 935, 936, 937, 938, 939, 79, 615, 617, 23, 618, 940, 941, 942] (by decide +kernel) (by decide +kernel)
end LWB2
