set_option maxRecDepth 20000 in
theorem ggL_law_X9_keeper : GoodIn wsLaw wsX9_keeper := goodIn_r _ [507, 148, 508, 252, 128, 129, 130, 509, 510, 511, 5, 512, 251, 874, 875, 876, 877, 878, 879, 880, 881, 882, 883, 884, 885, 886, 887, 888, 889, 890, 891, 892, 893, 894, 895, 896, 897, 898, 899, 900, 901, 902, 903, 904, 905, 906, 907, 908, 909, 910, 911, 912, 913, 914, 915, 916, 917, 918] (by decide +kernel) (by decide +kernel)
set_option maxRecDepth 20000 in
theorem gL_law_X9_keeper : GoodIn wsLaw (wsV RL 52 RX9 yX9_keeper wsX9_keeper) := goodIn_app (goodIn_of _ (by decide +kernel)) ggL_law_X9_keeper
set_option maxRecDepth 20000 in
theorem ggL_law_X8_legs : GoodIn wsLaw wsX8_legs := goodIn_r _ [516, 22, 169, 517, 158, 159, 2, 160, 869, 870, 871, 872, 873, 929, 930, 931, 932, 933, 934, 935] (by decide +kernel) (by decide +kernel)
set_option maxRecDepth 20000 in
theorem gL_law_X8_legs : GoodIn wsLaw (wsV RL 53 RX8 yX8_legs wsX8_legs) := goodIn_app (goodIn_of _ (by decide +kernel)) ggL_law_X8_legs
set_option maxRecDepth 20000 in
theorem ggL_law_X9_legs : GoodIn wsLaw wsX9_legs := goodIn_r _ [521, 148, 252, 114, 253, 254, 5, 255, 874, 875, 876, 877, 878, 879, 880, 881, 882, 883, 884, 885, 886, 887, 888, 889, 890, 891, 892, 893, 894, 895, 896, 897, 898, 899, 900, 901, 902, 903, 904, 905, 906, 907, 908, 909, 910, 911, 912, 913, 914, 915, 916, 917, 918] (by decide +kernel) (by decide +kernel)
set_option maxRecDepth 20000 in
theorem gL_law_X9_legs : GoodIn wsLaw (wsV RL 56 RX9 yX9_legs wsX9_legs) := goodIn_app (goodIn_of _ (by decide +kernel)) ggL_law_X9_legs
set_option maxRecDepth 20000 in
theorem ggL_law_X8_ship : GoodIn wsLaw wsX8_ship := goodIn_r _ [525, 22, 170, 526, 169, 527, 528, 529, 530, 531, 532, 59, 533, 178, 174, 175, 176, 177, 158, 159, 2, 160, 534, 535, 536, 537, 11, 12, 47, 538, 539, 540, 541, 542, 543, 544, 545, 195, 196, 197, 198, 199, 200, 75, 201, 202, 203, 204, 205, 206, 207, 208, 209, 210, 211, 212, 74, 213, 214, 215, 216, 217, 218, 219, 220, 221, 222, 223, 224, 225, 226, 227, 228, 229, 230, 231, 232, 233, 234, 235, 236, 237, 238, 239, 240, 241, 242, 243, 244, 245, 246, 869, 870, 871, 872, 873, 929, 930, 931, 932, 933, 934, 935, 962, 963, 964, 965, 966, 967, 968, 969, 944, 945, 946] (by decide +kernel) (by decide +kernel)
set_option maxRecDepth 20000 in
theorem gL_law_X8_ship : GoodIn wsLaw (wsV RL 57 RX8 yX8_ship wsX8_ship) := goodIn_app (goodIn_of _ (by decide +kernel)) ggL_law_X8_ship
set_option maxRecDepth 20000 in
theorem ggL_law_X9_ship : GoodIn wsLaw wsX9_ship := goodIn_r _ [549, 148, 550, 251, 252, 119, 127, 122, 125, 126, 253, 254, 5, 255, 874, 875, 876, 877, 878, 879, 880, 881, 882, 883, 884, 885, 886, 887, 888, 889, 890, 891, 892, 893, 894, 895, 896, 897, 898, 899, 900, 901, 902, 903, 904, 905, 906, 907, 908, 909, 910, 911, 912, 913, 914, 915, 916, 917, 918] (by decide +kernel) (by decide +kernel)
set_option maxRecDepth 20000 in
theorem gL_law_X9_ship : GoodIn wsLaw (wsV RL 61 RX9 yX9_ship wsX9_ship) := goodIn_app (goodIn_of _ (by decide +kernel)) ggL_law_X9_ship
set_option maxRecDepth 20000 in
theorem ggL_law_X8_go : GoodIn wsLaw wsX8_go := goodIn_r _ [554, 22, 169, 158, 159, 2, 160, 555, 556, 557, 21, 558, 60, 62, 559, 560, 66, 561, 562, 563, 564, 61, 565, 566, 175, 176, 59, 177, 178, 567, 568, 569, 570, 571, 572, 573, 574, 575, 358, 359, 360, 576, 577, 578, 579, 75, 580, 581, 582, 529, 583, 539, 545, 584, 585, 586, 587, 588, 589, 590, 591, 592, 593, 594, 595, 596, 597, 598, 492, 599, 501, 502, 503, 600, 601, 602, 173, 603, 184, 183, 604, 605, 606, 607, 608, 609, 610, 611, 612, 613, 185, 614, 615, 616, 617, 540, 618, 619, 620, 621, 56, 622, 623, 624, 625, 55, 626, 70, 627, 628, 629, 630, 631, 632, 633, 241, 215, 242, 634, 635, 636, 637, 638, 639, 640, 641, 642, 643, 644, 645, 646, 647, 648, 64, 649, 650, 651, 652, 653, 25, 654, 92, 90, 91, 655, 656, 657, 658, 191, 659, 660, 661, 662, 663, 664, 665, 666, 667, 190, 187, 668, 669, 670, 671, 672, 673, 674, 65, 675, 676, 677, 678, 679, 680, 681, 682, 683, 684, 685, 686, 687, 688, 689, 690, 186, 193, 194, 691, 188, 869, 870, 871, 872, 873, 929, 930, 931, 932, 933, 934, 935, 944, 945, 946, 962, 963, 964, 965, 966, 967, 968, 969, 947, 948, 949, 950, 951, 952, 953, 954, 955, 956, 957, 958, 959, 960, 961, 943, 936, 937, 938, 939, 940] (by decide +kernel) (by decide +kernel)
set_option maxRecDepth 20000 in
theorem gL_law_X8_go : GoodIn wsLaw (wsV RL 62 RX8 yX8_go wsX8_go) := goodIn_app (goodIn_of _ (by decide +kernel)) ggL_law_X8_go
set_option maxRecDepth 20000 in
theorem ggL_law_X9_go : GoodIn wsLaw wsX9_go := goodIn_r _ [695, 148, 252, 251, 550, 124, 120, 508, 110, 106, 108, 107, 112, 253, 254, 5, 255, 696, 697, 698, 699, 122, 121, 127, 123, 130, 128, 129, 109, 700, 701, 702, 703, 704, 705, 706, 707, 119, 708, 709, 710, 711, 102, 712, 713, 714, 715, 113, 716, 717, 718, 719, 126, 125, 105, 720, 721, 722, 723, 104, 103, 111, 724, 725, 726, 727, 728, 729, 730, 731, 117, 115, 116, 732, 733, 734, 735, 736, 737, 738, 739, 114, 740, 741, 742, 874, 875, 876, 877, 878, 879, 880, 881, 882, 883, 884, 885, 886, 887, 888, 889, 890, 891, 892, 893, 894, 895, 896, 897, 898, 899, 900, 901, 902, 903, 904, 905, 906, 907, 908, 909, 910, 911, 912, 913, 914, 915, 916, 917, 918] (by decide +kernel) (by decide +kernel)
set_option maxRecDepth 20000 in
theorem gL_law_X9_go : GoodIn wsLaw (wsV RL 65 RX9 yX9_go wsX9_go) := goodIn_app (goodIn_of _ (by decide +kernel)) ggL_law_X9_go
set_option maxRecDepth 20000 in
theorem ggL_law_X8_level : GoodIn wsLaw wsX8_level := goodIn_r _ [746, 22, 260, 158, 159, 2, 160, 747, 624, 625, 55, 626, 70, 869, 870, 871, 872, 873, 929, 930, 931, 932, 933, 934, 935, 943] (by decide +kernel) (by decide +kernel)
set_option maxRecDepth 20000 in
theorem gL_law_X8_level : GoodIn wsLaw (wsV RL 66 RX8 yX8_level wsX8_level) := goodIn_app (goodIn_of _ (by decide +kernel)) ggL_law_X8_level
