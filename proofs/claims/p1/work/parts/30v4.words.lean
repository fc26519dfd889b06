set_option maxRecDepth 20000 in
theorem ggL_law_X8_told : GoodIn wsL_law wsX8_told := goodIn_r _ [786, 40, 768, 769, 770, 2, 771, 253, 254, 255, 256, 257, 32, 180, 181, 182, 137, 138, 139, 140, 772, 39, 773, 774, 272, 87, 88, 695, 696, 697, 885, 886, 887, 888, 889, 890, 891, 892, 893, 894, 895, 896, 897, 898, 899, 900, 901, 984, 985, 986, 987, 988] rfl (by decide +kernel)
set_option maxRecDepth 20000 in
theorem gL_law_X8_told : GoodIn wsL_law (wsV RL 97 RX8 yX8_told wsX8_told) := goodIn_app (goodIn_of _ (by decide +kernel)) ggL_law_X8_told
set_option maxRecDepth 20000 in
theorem ggL_law_X8_trait : GoodIn wsL_law wsX8_trait := goodIn_r _ [309, 257, 26, 310, 311, 312, 2, 313, 30, 45, 32, 31, 314, 259, 315, 29, 316, 317, 318, 319, 320, 321, 322, 323, 324, 72, 325, 326, 327, 328, 329, 146, 147, 148, 330, 331, 332, 333, 334, 335, 336, 337, 338, 339, 340, 341, 342, 343, 344, 345, 346, 347, 348, 349, 350, 351, 352, 353, 354, 355, 356, 357, 358, 359, 360, 361, 362, 363, 364, 365, 366, 367, 368, 369, 370, 371, 372, 373, 374, 375, 376, 377, 378, 379, 380, 381, 382, 383, 384, 385, 386, 387, 388, 389, 390, 391, 392, 393, 394, 395, 396, 397, 398, 399, 400, 401, 71, 70, 402, 403, 404, 405, 406, 11, 12, 407, 408, 409, 410, 411, 412, 413, 414, 415, 416, 417, 418, 419, 420, 421, 422, 423, 424, 425, 426, 427, 428, 429, 430, 431, 432, 433, 434, 435, 436, 437, 438, 439, 440, 441, 442, 443, 444, 445, 446, 447, 448, 449, 450, 451, 452, 453, 454, 455, 456, 253, 254, 255, 256, 457, 458, 459, 460, 461, 462, 78, 267, 41, 268, 463, 464, 465, 466, 467, 468, 469, 470, 262, 471, 472, 61, 473, 474, 60, 62, 141, 142, 143, 144, 145, 149, 885, 886, 887, 888, 889, 890, 891, 892, 893, 894, 895, 896, 897, 898, 899, 900, 901, 963, 964, 965, 966, 967, 968, 969, 970, 971, 972, 973, 989, 990, 991, 992, 993, 994, 995, 996, 997, 998, 999, 1000] rfl (by decide +kernel)
set_option maxRecDepth 20000 in
theorem gL_law_X8_trait : GoodIn wsL_law (wsV RL 45 RX8 yX8_trait wsX8_trait) := goodIn_app (goodIn_of _ (by decide +kernel)) ggL_law_X8_trait
set_option maxRecDepth 20000 in
theorem ggL_law_X8_value : GoodIn wsL_law wsX8_value := goodIn_r _ [570, 571, 36, 253, 254, 255, 2, 256, 257, 32, 180, 181, 182, 137, 138, 139, 140, 572, 35, 573, 574, 83, 575, 80, 576, 577, 578, 579, 82, 76, 580, 581, 81, 77, 218, 19, 219, 220, 58, 57, 221, 215, 216, 217, 458, 459, 582, 583, 584, 585, 586, 587, 588, 589, 590, 591, 592, 593, 594, 79, 595, 596, 147, 597, 598, 599, 600, 601, 602, 603, 604, 605, 606, 607, 608, 609, 610, 611, 612, 613, 614, 615, 616, 617, 618, 619, 620, 621, 622, 623, 624, 625, 626, 627, 628, 885, 886, 887, 888, 889, 890, 891, 892, 893, 894, 895, 896, 897, 898, 899, 900, 901, 974, 975, 976, 977, 978, 979, 980, 981, 982, 983, 989, 990, 991, 992, 993, 994, 995, 996, 953, 954, 955, 956, 957, 958, 959, 960, 961, 962, 997, 998, 999, 1000] rfl (by decide +kernel)
set_option maxRecDepth 20000 in
theorem gL_law_X8_value : GoodIn wsL_law (wsV RL 54 RX8 yX8_value wsX8_value) := goodIn_app (goodIn_of _ (by decide +kernel)) ggL_law_X8_value
set_option maxRecDepth 20000 in
theorem ggL_law_X9_age : GoodIn wsL_law wsX9_age := goodIn_r _ [732, 123, 154, 119, 715, 716, 717, 5, 718, 121, 634, 635, 636, 637, 480, 156, 157, 158, 203, 204, 205, 206, 902, 903, 904, 905, 906, 907, 908, 909, 910, 911, 912, 913, 914, 915, 916, 917, 918, 919, 920, 921, 922, 923, 924, 925, 926, 927, 928, 929, 930, 931, 932, 933, 934, 935, 936, 937, 938, 939, 940, 941, 942, 943, 944, 945, 946, 947, 948, 949, 950, 951, 952] rfl (by decide +kernel)
set_option maxRecDepth 20000 in
theorem gL_law_X9_age : GoodIn wsL_law (wsV RL 82 RX9 yX9_age wsX9_age) := goodIn_app (goodIn_of _ (by decide +kernel)) ggL_law_X9_age
set_option maxRecDepth 20000 in
theorem ggL_law_X9_count : GoodIn wsL_law wsX9_count := goodIn_r _ [876, 154, 199, 100, 231, 480, 800, 702, 297, 760, 761, 762, 5, 763, 103, 902, 903, 904, 905, 906, 907, 908, 909, 910, 911, 912, 913, 914, 915, 916, 917, 918, 919, 920, 921, 922, 923, 924, 925, 926, 927, 928, 929, 930, 931, 932, 933, 934, 935, 936, 937, 938, 939, 940, 941, 942, 943, 944, 945, 946, 947, 948, 949, 950, 951, 952] rfl (by decide +kernel)
set_option maxRecDepth 20000 in
theorem gL_law_X9_count : GoodIn wsL_law (wsV RL 125 RX9 yX9_count wsX9_count) := goodIn_app (goodIn_of _ (by decide +kernel)) ggL_law_X9_count
set_option maxRecDepth 20000 in
theorem ggL_law_X9_end : GoodIn wsL_law wsX9_end := goodIn_r _ [305, 297, 902, 903, 904, 905, 906, 907, 908, 909, 910, 911, 912, 913, 914, 915, 916, 917, 918, 919, 920, 921, 922, 923, 924, 925, 926, 927, 928, 929, 930, 931, 932, 933, 934, 935, 936, 937, 938, 939, 940, 941, 942, 943, 944, 945, 946, 947, 948, 949, 950, 951, 952] rfl (by decide +kernel)
set_option maxRecDepth 20000 in
theorem gL_law_X9_end : GoodIn wsL_law (wsV RL 44 RX9 yX9_end wsX9_end) := goodIn_app (goodIn_of _ (by decide +kernel)) ggL_law_X9_end
set_option maxRecDepth 20000 in
theorem ggL_law_X9_erase : GoodIn wsL_law wsX9_erase := goodIn_r _ [284, 103, 199, 95, 100, 121, 203, 204, 5, 205, 206, 156, 157, 158, 159, 160, 161, 162, 163, 902, 903, 904, 905, 906, 907, 908, 909, 910, 911, 912, 913, 914, 915, 916, 917, 918, 919, 920, 921, 922, 923, 924, 925, 926, 927, 928, 929, 930, 931, 932, 933, 934, 935, 936, 937, 938, 939, 940, 941, 942, 943, 944, 945, 946, 947, 948, 949, 950, 951, 952] rfl (by decide +kernel)
set_option maxRecDepth 20000 in
theorem gL_law_X9_erase : GoodIn wsL_law (wsV RL 36 RX9 yX9_erase wsX9_erase) := goodIn_app (goodIn_of _ (by decide +kernel)) ggL_law_X9_erase
set_option maxRecDepth 20000 in
theorem ggL_law_X9_fault : GoodIn wsL_law wsX9_fault := goodIn_r _ [566, 106, 902, 903, 904, 905, 906, 907, 908, 909, 910, 911, 912, 913, 914, 915, 916, 917, 918, 919, 920, 921, 922, 923, 924, 925, 926, 927, 928, 929, 930, 931, 932, 933, 934, 935, 936, 937, 938, 939, 940, 941, 942, 943, 944, 945, 946, 947, 948, 949, 950, 951, 952] rfl (by decide +kernel)
set_option maxRecDepth 20000 in
theorem gL_law_X9_fault : GoodIn wsL_law (wsV RL 53 RX9 yX9_fault wsX9_fault) := goodIn_app (goodIn_of _ (by decide +kernel)) ggL_law_X9_fault