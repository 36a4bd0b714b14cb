set_option maxRecDepth 20000 in
theorem ggL_law_X8_through : GoodIn wsLaw wsX8_through := goodIn_r _ [814, 22, 526, 786, 815, 790, 791, 792, 2, 793, 174, 175, 176, 59, 177, 178, 158, 159, 160, 493, 494, 495, 496, 170, 766, 568, 569, 570, 571, 572, 573, 574, 575, 358, 359, 360, 576, 577, 578, 579, 75, 869, 870, 871, 872, 873, 929, 930, 931, 932, 933, 934, 935, 962, 963, 964, 965, 966, 967, 968, 969, 944, 945, 946] (by decide +kernel) (by decide +kernel)
set_option maxRecDepth 20000 in
theorem gL_law_X8_through : GoodIn wsLaw (wsV RL 87 RX8 yX8_through wsX8_through) := goodIn_app (goodIn_of _ (by decide +kernel)) ggL_law_X8_through
set_option maxRecDepth 20000 in
theorem ggL_law_X9_through : GoodIn wsLaw wsX9_through := goodIn_r _ [819, 148, 126, 799, 800, 801, 5, 802, 550, 509, 510, 511, 512, 251, 874, 875, 876, 877, 878, 879, 880, 881, 882, 883, 884, 885, 886, 887, 888, 889, 890, 891, 892, 893, 894, 895, 896, 897, 898, 899, 900, 901, 902, 903, 904, 905, 906, 907, 908, 909, 910, 911, 912, 913, 914, 915, 916, 917, 918] (by decide +kernel) (by decide +kernel)
set_option maxRecDepth 20000 in
theorem gL_law_X9_through : GoodIn wsLaw (wsV RL 90 RX9 yX9_through wsX9_through) := goodIn_app (goodIn_of _ (by decide +kernel)) ggL_law_X9_through
set_option maxRecDepth 20000 in
theorem ggL_law_X8_keeps : GoodIn wsLaw wsX8_keeps := goodIn_r _ [823, 22, 489, 824, 825, 826, 827, 174, 175, 176, 59, 177, 178, 158, 159, 2, 160, 766, 568, 569, 570, 571, 572, 573, 574, 575, 358, 359, 360, 576, 577, 578, 579, 75, 869, 870, 871, 872, 873, 929, 930, 931, 932, 933, 934, 935, 959, 960, 961, 944, 945, 946] (by decide +kernel) (by decide +kernel)
set_option maxRecDepth 20000 in
theorem gL_law_X8_keeps : GoodIn wsLaw (wsV RL 91 RX8 yX8_keeps wsX8_keeps) := goodIn_app (goodIn_of _ (by decide +kernel)) ggL_law_X8_keeps
set_option maxRecDepth 20000 in
theorem ggL_law_X9_keeps : GoodIn wsLaw wsX9_keeps := goodIn_r _ [831, 148, 508, 128, 129, 130, 874, 875, 876, 877, 878, 879, 880, 881, 882, 883, 884, 885, 886, 887, 888, 889, 890, 891, 892, 893, 894, 895, 896, 897, 898, 899, 900, 901, 902, 903, 904, 905, 906, 907, 908, 909, 910, 911, 912, 913, 914, 915, 916, 917, 918] (by decide +kernel) (by decide +kernel)
set_option maxRecDepth 20000 in
theorem gL_law_X9_keeps : GoodIn wsLaw (wsV RL 94 RX9 yX9_keeps wsX9_keeps) := goodIn_app (goodIn_of _ (by decide +kernel)) ggL_law_X9_keeps
set_option maxRecDepth 20000 in
theorem ggL_law_X8_soonest : GoodIn wsLaw wsX8_soonest := goodIn_r _ [835, 22, 170, 530, 531, 532, 59, 533, 178, 158, 159, 2, 160, 836, 837, 838, 21, 839, 60, 560, 634, 566, 175, 176, 177, 840, 841, 842, 843, 650, 64, 649, 567, 568, 569, 570, 571, 572, 573, 574, 575, 358, 359, 360, 576, 577, 578, 579, 75, 651, 652, 653, 25, 654, 92, 90, 91, 618, 619, 620, 621, 56, 622, 623, 624, 625, 55, 626, 70, 869, 870, 871, 872, 873, 929, 930, 931, 932, 933, 934, 935, 944, 945, 946, 947, 948, 949, 950, 951, 952, 953, 954, 955, 956, 957, 958, 936, 937, 938, 939, 940, 943] (by decide +kernel) (by decide +kernel)
set_option maxRecDepth 20000 in
theorem gL_law_X8_soonest : GoodIn wsLaw (wsV RL 95 RX8 yX8_soonest wsX8_soonest) := goodIn_app (goodIn_of _ (by decide +kernel)) ggL_law_X8_soonest
set_option maxRecDepth 20000 in
theorem ggL_law_X9_soonest : GoodIn wsLaw wsX9_soonest := goodIn_r _ [847, 148, 251, 105, 253, 254, 5, 255, 848, 849, 850, 851, 103, 104, 708, 709, 710, 711, 102, 712, 713, 714, 715, 113, 728, 729, 730, 731, 117, 115, 116, 874, 875, 876, 877, 878, 879, 880, 881, 882, 883, 884, 885, 886, 887, 888, 889, 890, 891, 892, 893, 894, 895, 896, 897, 898, 899, 900, 901, 902, 903, 904, 905, 906, 907, 908, 909, 910, 911, 912, 913, 914, 915, 916, 917, 918] (by decide +kernel) (by decide +kernel)
set_option maxRecDepth 20000 in
theorem gL_law_X9_soonest : GoodIn wsLaw (wsV RL 98 RX9 yX9_soonest wsX9_soonest) := goodIn_app (goodIn_of _ (by decide +kernel)) ggL_law_X9_soonest
set_option maxRecDepth 20000 in
theorem ggL_law_X8_count : GoodIn wsLaw wsX8_count := goodIn_r _ [855, 22, 169, 170, 526, 489, 18, 135, 174, 175, 176, 59, 177, 178, 856, 857, 858, 21, 859, 61, 565, 589, 566, 567, 568, 569, 570, 571, 572, 573, 574, 575, 358, 359, 360, 576, 577, 578, 579, 75, 860, 861, 862, 863, 644, 864, 214, 215, 216, 869, 870, 871, 872, 873, 929, 930, 931, 932, 933, 934, 935, 941, 942, 944, 945, 946, 962, 963, 964, 965, 966, 967, 968, 969] (by decide +kernel) (by decide +kernel)
set_option maxRecDepth 20000 in
theorem gL_law_X8_count : GoodIn wsLaw (wsV RL 99 RX8 yX8_count wsX8_count) := goodIn_app (goodIn_of _ (by decide +kernel)) ggL_law_X8_count
set_option maxRecDepth 20000 in
theorem ggL_law_X9_count : GoodIn wsLaw wsX9_count := goodIn_r _ [868, 148, 252, 251, 550, 508, 120, 124, 149, 874, 875, 876, 877, 878, 879, 880, 881, 882, 883, 884, 885, 886, 887, 888, 889, 890, 891, 892, 893, 894, 895, 896, 897, 898, 899, 900, 901, 902, 903, 904, 905, 906, 907, 908, 909, 910, 911, 912, 913, 914, 915, 916, 917, 918] (by decide +kernel) (by decide +kernel)
set_option maxRecDepth 20000 in
theorem gL_law_X9_count : GoodIn wsLaw (wsV RL 102 RX9 yX9_count wsX9_count) := goodIn_app (goodIn_of _ (by decide +kernel)) ggL_law_X9_count
