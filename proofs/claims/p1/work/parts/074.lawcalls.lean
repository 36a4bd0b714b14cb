set_option maxRecDepth 20000 in
theorem ggL_law_X9_level : GoodIn wsLaw wsX9_level := goodIn_r _ [751, 148, 253, 254, 5, 255, 712, 713, 714, 715, 113, 874, 875, 876, 877, 878, 879, 880, 881, 882, 883, 884, 885, 886, 887, 888, 889, 890, 891, 892, 893, 894, 895, 896, 897, 898, 899, 900, 901, 902, 903, 904, 905, 906, 907, 908, 909, 910, 911, 912, 913, 914, 915, 916, 917, 918] (by decide +kernel) (by decide +kernel)
set_option maxRecDepth 20000 in
theorem gL_law_X9_level : GoodIn wsLaw (wsV RL 69 RX9 yX9_level wsX9_level) := goodIn_app (goodIn_of _ (by decide +kernel)) ggL_law_X9_level
set_option maxRecDepth 20000 in
theorem ggL_law_X8_barred : GoodIn wsLaw wsX8_barred := goodIn_r _ [755, 22, 284, 493, 494, 495, 2, 496, 170, 174, 175, 176, 59, 177, 178, 158, 159, 160, 756, 652, 653, 25, 654, 92, 90, 91, 869, 870, 871, 872, 873, 929, 930, 931, 932, 933, 934, 935, 944, 945, 946, 936, 937, 938, 939, 940] (by decide +kernel) (by decide +kernel)
set_option maxRecDepth 20000 in
theorem gL_law_X8_barred : GoodIn wsLaw (wsV RL 70 RX8 yX8_barred wsX8_barred) := goodIn_app (goodIn_of _ (by decide +kernel)) ggL_law_X8_barred
set_option maxRecDepth 20000 in
theorem ggL_law_X9_barred : GoodIn wsLaw wsX9_barred := goodIn_r _ [760, 148, 509, 510, 511, 5, 512, 251, 253, 254, 255, 728, 729, 730, 731, 117, 115, 116, 874, 875, 876, 877, 878, 879, 880, 881, 882, 883, 884, 885, 886, 887, 888, 889, 890, 891, 892, 893, 894, 895, 896, 897, 898, 899, 900, 901, 902, 903, 904, 905, 906, 907, 908, 909, 910, 911, 912, 913, 914, 915, 916, 917, 918] (by decide +kernel) (by decide +kernel)
set_option maxRecDepth 20000 in
theorem gL_law_X9_barred : GoodIn wsLaw (wsV RL 73 RX9 yX9_barred wsX9_barred) := goodIn_app (goodIn_of _ (by decide +kernel)) ggL_law_X9_barred
set_option maxRecDepth 20000 in
theorem ggL_law_X8_about : GoodIn wsLaw wsX8_about := goodIn_r _ [764, 22, 170, 765, 493, 494, 495, 2, 496, 174, 175, 176, 59, 177, 178, 158, 159, 160, 766, 568, 569, 570, 571, 572, 573, 574, 575, 358, 359, 360, 576, 577, 578, 579, 75, 767, 768, 769, 173, 770, 183, 184, 185, 186, 187, 188, 869, 870, 871, 872, 873, 929, 930, 931, 932, 933, 934, 935, 944, 945, 946, 947, 948, 949, 950, 951, 952, 953, 954, 955, 956, 957, 958] (by decide +kernel) (by decide +kernel)
set_option maxRecDepth 20000 in
theorem gL_law_X8_about : GoodIn wsLaw (wsV RL 74 RX8 yX8_about wsX8_about) := goodIn_app (goodIn_of _ (by decide +kernel)) ggL_law_X8_about
set_option maxRecDepth 20000 in
theorem ggL_law_X9_about : GoodIn wsLaw wsX9_about := goodIn_r _ [774, 148, 108, 109, 550, 120, 121, 110, 111, 112, 509, 510, 511, 5, 512, 251, 874, 875, 876, 877, 878, 879, 880, 881, 882, 883, 884, 885, 886, 887, 888, 889, 890, 891, 892, 893, 894, 895, 896, 897, 898, 899, 900, 901, 902, 903, 904, 905, 906, 907, 908, 909, 910, 911, 912, 913, 914, 915, 916, 917, 918] (by decide +kernel) (by decide +kernel)
set_option maxRecDepth 20000 in
theorem gL_law_X9_about : GoodIn wsLaw (wsV RL 77 RX9 yX9_about wsX9_about) := goodIn_app (goodIn_of _ (by decide +kernel)) ggL_law_X9_about
set_option maxRecDepth 20000 in
theorem ggL_law_L_told : GoodIn wsLaw wsLT := goodIn_ca (goodIn_r _ [778, 779, 780, 781, 782, 2, 783, 784, 785, 22, 526, 786, 787, 788, 789, 790, 791, 792, 793, 174, 175, 176, 59, 177, 178, 158, 159, 160, 766, 568, 569, 570, 571, 572, 573, 574, 575, 358, 359, 360, 576, 577, 578, 579, 75, 794, 592, 593, 21, 594, 589, 595, 60, 588, 566, 869, 870, 871, 872, 873, 929, 930, 931, 932, 933, 934, 935, 962, 963, 964, 965, 966, 967, 968, 969, 944, 945, 946] (by decide +kernel) (by decide +kernel)) (goodIn_sub (fun _ h => List.mem_append_right _ h) (by decide +kernel))
set_option maxRecDepth 20000 in
theorem gL_law_L_told : GoodIn wsLaw (va_wsS RL 78 yL_told wsLT) := goodIn_app (goodIn_of _ (by decide +kernel)) ggL_law_L_told
set_option maxRecDepth 20000 in
theorem ggL_law_X9_told : GoodIn wsLaw wsX9_told := goodIn_r _ [798, 120, 127, 121, 124, 125, 799, 800, 801, 5, 802, 550, 803, 804, 805, 806, 148, 700, 701, 702, 703, 251, 874, 875, 876, 877, 878, 879, 880, 881, 882, 883, 884, 885, 886, 887, 888, 889, 890, 891, 892, 893, 894, 895, 896, 897, 898, 899, 900, 901, 902, 903, 904, 905, 906, 907, 908, 909, 910, 911, 912, 913, 914, 915, 916, 917, 918] (by decide +kernel) (by decide +kernel)
set_option maxRecDepth 20000 in
theorem gL_law_X9_told : GoodIn wsLaw (wsV RL 83 RX9 yX9_told wsX9_told) := goodIn_app (goodIn_of _ (by decide +kernel)) ggL_law_X9_told
set_option maxRecDepth 20000 in
theorem ggL_law_X9_thrown : GoodIn wsLaw wsX9_thrown := goodIn_r _ [810, 148, 874, 875, 876, 877, 878, 879, 880, 881, 882, 883, 884, 885, 886, 887, 888, 889, 890, 891, 892, 893, 894, 895, 896, 897, 898, 899, 900, 901, 902, 903, 904, 905, 906, 907, 908, 909, 910, 911, 912, 913, 914, 915, 916, 917, 918] (by decide +kernel) (by decide +kernel)
set_option maxRecDepth 20000 in
theorem gL_law_X9_thrown : GoodIn wsLaw (wsV RL 84 RX9 yX9_thrown wsX9_thrown) := goodIn_app (goodIn_of _ (by decide +kernel)) ggL_law_X9_thrown
