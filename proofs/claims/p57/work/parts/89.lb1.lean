section LWB1
set_option maxRecDepth 20000 in
theorem wsL_law0_r9_in : GoodIn lw_tb2 wsL_law0_r9 := goodIn_r _ [70, 337, 338, 339, 340, 341, 342, 343, 344, 346, 347, 348, 349, 350, 352, 15, 353, 362, 354, 355, 356, 357, 358, 359] (by decide +kernel) (by decide +kernel)
set_option maxRecDepth 20000 in
theorem wsL_law0_r10_in : GoodIn lw_tb2 wsL_law0_r10 := goodIn_r _ [360, 361, 363, 364, 365, 366, 367, 368, 369, 370, 371, 372, 374, 16, 375, 377, 379, 17, 380, 83, 381, 382, 383, 384] (by decide +kernel) (by decide +kernel)
set_option maxRecDepth 20000 in
theorem wsL_law0_r11_in : GoodIn lw_tb2 wsL_law0_r11 := goodIn_r _ [385, 386, 387, 388, 390, 392, 18, 393, 395, 397, 19, 398, 88, 80, 399, 400, 401, 402, 403, 405, 404, 37, 533, 534] (by decide +kernel) (by decide +kernel)
set_option maxRecDepth 20000 in
theorem wsL_law0_r12_in : GoodIn lw_tb2 wsL_law0_r12 := goodIn_r _ [25, 535, 536, 671, 672, 673, 674, 675, 39, 677, 678, 679, 680, 681, 38, 682, 683, 685, 686, 797, 796, 684, 687, 688] (by decide +kernel) (by decide +kernel)
set_option maxRecDepth 20000 in
theorem wsL_law0_r13_in : GoodIn lw_tb2 wsL_law0_r13 := goodIn_r _ [689, 690, 691, 692, 693, 694, 695, 697, 696, 698, 699, 700, 701, 702, 703, 704, 705, 706, 696, 707, 799, 708, 1114, 0] (by decide +kernel) (by decide +kernel)
set_option maxRecDepth 20000 in
theorem wsL_law0_r14_in : GoodIn lw_tb2 wsL_law0_r14 := goodIn_r _ [710, 711, 712, 1115, 1, 714, 715, 716, 1116, 2, 718, 719, 720, 721, 40, 722, 723, 724, 725, 726, 727, 728, 729, 730] (by decide +kernel) (by decide +kernel)
set_option maxRecDepth 20000 in
theorem wsL_law0_r15_in : GoodIn lw_tb2 wsL_law0_r15 := goodIn_r _ [731, 41, 732, 733, 734, 735, 736, 737, 739, 740, 741, 742, 744, 745, 743, 746, 747, 748, 749, 750, 751, 752, 753, 754] (by decide +kernel) (by decide +kernel)
set_option maxRecDepth 20000 in
theorem wsL_law0_r16_in : GoodIn lw_tb2 wsL_law0_r16 := goodIn_r _ [755, 756, 757, 758, 759, 760, 761, 762, 763, 1117, 3, 765, 766, 767, 1118, 4, 769, 770, 771, 1119, 5, 773, 774, 775] (by decide +kernel) (by decide +kernel)
end LWB1
