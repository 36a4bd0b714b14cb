set_option maxRecDepth 20000 in
theorem ggL_law_X9_bridge : GoodIn wsLaw wsX9_bridge := goodIn_r _ [250, 148, 251, 252, 102, 103, 104, 105, 106, 107, 109, 253, 254, 5, 255, 874, 875, 876, 877, 878, 879, 880, 881, 882, 883, 884, 885, 886, 887, 888, 889, 890, 891, 892, 893, 894, 895, 896, 897, 898, 899, 900, 901, 902, 903, 904, 905, 906, 907, 908, 909, 910, 911, 912, 913, 914, 915, 916, 917, 918] (by decide +kernel) (by decide +kernel)
set_option maxRecDepth 20000 in
theorem gL_law_X9_bridge : GoodIn wsLaw (wsV RL 33 RX9 yX9_bridge wsX9_bridge) := goodIn_app (goodIn_of _ (by decide +kernel)) ggL_law_X9_bridge
set_option maxRecDepth 20000 in
theorem ggL_law_X8_tide : GoodIn wsLaw wsX8_tide := goodIn_r _ [259, 22, 169, 260, 18, 135, 261, 262, 263, 55, 264, 265, 266, 70, 267, 244, 245, 246, 869, 870, 871, 872, 873, 929, 930, 931, 932, 933, 934, 935, 941, 942, 943] (by decide +kernel) (by decide +kernel)
set_option maxRecDepth 20000 in
theorem gL_law_X8_tide : GoodIn wsLaw (wsV RL 34 RX8 yX8_tide wsX8_tide) := goodIn_app (goodIn_of _ (by decide +kernel)) ggL_law_X8_tide
set_option maxRecDepth 20000 in
theorem ggL_law_X9_tide : GoodIn wsLaw wsX9_tide := goodIn_r _ [271, 148, 252, 272, 101, 113, 273, 274, 275, 5, 276, 149, 277, 253, 254, 255, 874, 875, 876, 877, 878, 879, 880, 881, 882, 883, 884, 885, 886, 887, 888, 889, 890, 891, 892, 893, 894, 895, 896, 897, 898, 899, 900, 901, 902, 903, 904, 905, 906, 907, 908, 909, 910, 911, 912, 913, 914, 915, 916, 917, 918] (by decide +kernel) (by decide +kernel)
set_option maxRecDepth 20000 in
theorem gL_law_X9_tide : GoodIn wsLaw (wsV RL 38 RX9 yX9_tide wsX9_tide) := goodIn_app (goodIn_of _ (by decide +kernel)) ggL_law_X9_tide
set_option maxRecDepth 20000 in
theorem ggL_law_X8_timetable : GoodIn wsLaw wsX8_timetable := goodIn_r _ [281, 22, 169, 18, 135, 16, 26, 282, 27, 283, 284, 285, 286, 287, 288, 15, 289, 35, 38, 42, 43, 290, 291, 292, 25, 293, 92, 94, 95, 294, 295, 296, 297, 34, 298, 299, 241, 215, 242, 300, 40, 39, 301, 302, 303, 304, 305, 306, 307, 308, 309, 310, 311, 312, 313, 314, 315, 316, 41, 317, 318, 319, 320, 321, 322, 323, 324, 325, 326, 327, 328, 329, 330, 331, 332, 333, 334, 335, 336, 337, 338, 339, 340, 341, 342, 343, 344, 345, 346, 347, 348, 349, 350, 351, 352, 353, 354, 355, 356, 357, 358, 359, 360, 361, 362, 363, 364, 365, 366, 367, 368, 369, 370, 371, 372, 373, 374, 375, 376, 377, 378, 379, 380, 381, 37, 382, 383, 384, 385, 386, 387, 388, 389, 390, 391, 392, 393, 159, 2, 160, 394, 395, 396, 397, 398, 36, 399, 400, 401, 402, 403, 404, 405, 406, 407, 408, 409, 410, 411, 412, 413, 414, 415, 416, 417, 418, 419, 420, 421, 422, 90, 91, 423, 869, 870, 871, 872, 873, 929, 930, 931, 932, 933, 934, 935, 941, 942, 919, 920, 921, 922, 923, 924, 925, 926, 927, 928, 936, 937, 938, 939, 940] (by decide +kernel) (by decide +kernel)
set_option maxRecDepth 20000 in
theorem gL_law_X8_timetable : GoodIn wsLaw (wsV RL 39 RX8 yX8_timetable wsX8_timetable) := goodIn_app (goodIn_of _ (by decide +kernel)) ggL_law_X8_timetable
set_option maxRecDepth 20000 in
theorem ggL_law_X9_timetable : GoodIn wsLaw wsX9_timetable := goodIn_r _ [427, 148, 252, 428, 118, 117, 429, 115, 116, 273, 274, 275, 5, 276, 149, 272, 277, 430, 431, 432, 433, 434, 435, 436, 437, 438, 439, 440, 441, 101, 442, 443, 444, 445, 446, 447, 448, 449, 450, 451, 452, 453, 454, 455, 456, 457, 458, 459, 460, 461, 462, 463, 464, 465, 466, 467, 468, 469, 470, 471, 472, 473, 474, 475, 476, 874, 875, 876, 877, 878, 879, 880, 881, 882, 883, 884, 885, 886, 887, 888, 889, 890, 891, 892, 893, 894, 895, 896, 897, 898, 899, 900, 901, 902, 903, 904, 905, 906, 907, 908, 909, 910, 911, 912, 913, 914, 915, 916, 917, 918] (by decide +kernel) (by decide +kernel)
set_option maxRecDepth 20000 in
theorem gL_law_X9_timetable : GoodIn wsLaw (wsV RL 43 RX9 yX9_timetable wsX9_timetable) := goodIn_app (goodIn_of _ (by decide +kernel)) ggL_law_X9_timetable
set_option maxRecDepth 20000 in
theorem ggL_law_X8_fault : GoodIn wsLaw wsX8_fault := goodIn_r _ [480, 27, 869, 870, 871, 872, 873] (by decide +kernel) (by decide +kernel)
set_option maxRecDepth 20000 in
theorem gL_law_X8_fault : GoodIn wsLaw (wsV RL 44 RX8 yX8_fault wsX8_fault) := goodIn_app (goodIn_of _ (by decide +kernel)) ggL_law_X8_fault
set_option maxRecDepth 20000 in
theorem ggL_law_X9_fault : GoodIn wsLaw wsX9_fault := goodIn_r _ [484, 148, 428, 874, 875, 876, 877, 878, 879, 880, 881, 882, 883, 884, 885, 886, 887, 888, 889, 890, 891, 892, 893, 894, 895, 896, 897, 898, 899, 900, 901, 902, 903, 904, 905, 906, 907, 908, 909, 910, 911, 912, 913, 914, 915, 916, 917, 918] (by decide +kernel) (by decide +kernel)
set_option maxRecDepth 20000 in
theorem gL_law_X9_fault : GoodIn wsLaw (wsV RL 47 RX9 yX9_fault wsX9_fault) := goodIn_app (goodIn_of _ (by decide +kernel)) ggL_law_X9_fault
set_option maxRecDepth 20000 in
theorem ggL_law_X8_keeper : GoodIn wsLaw wsX8_keeper := goodIn_r _ [488, 22, 169, 489, 490, 491, 492, 174, 175, 176, 59, 177, 178, 493, 494, 495, 2, 496, 170, 158, 159, 160, 497, 498, 499, 500, 11, 12, 501, 502, 503, 195, 196, 197, 198, 199, 200, 75, 201, 202, 203, 204, 205, 206, 207, 208, 209, 210, 211, 212, 74, 213, 214, 215, 216, 217, 218, 219, 220, 221, 222, 223, 224, 225, 226, 227, 228, 229, 230, 231, 232, 233, 234, 235, 236, 237, 238, 239, 240, 241, 242, 243, 244, 245, 246, 869, 870, 871, 872, 873, 929, 930, 931, 932, 933, 934, 935, 959, 960, 961, 944, 945, 946] (by decide +kernel) (by decide +kernel)
set_option maxRecDepth 20000 in
theorem gL_law_X8_keeper : GoodIn wsLaw (wsV RL 48 RX8 yX8_keeper wsX8_keeper) := goodIn_app (goodIn_of _ (by decide +kernel)) ggL_law_X8_keeper
