set_option maxRecDepth 20000 in
theorem ggL_law_X8_merge : GoodIn wsL_law wsX8_merge := goodIn_r _ [210, 211, 212, 213, 2, 214, 20, 140, 137, 138, 139, 180, 181, 182, 215, 19, 216, 217, 57, 218, 219, 220, 58, 221, 222, 223, 224, 225, 141, 142, 143, 144, 145, 146, 147, 148, 149, 885, 886, 887, 888, 889, 890, 891, 892, 893, 894, 895, 896, 897, 898, 899, 900, 901, 960, 961, 962] rfl (by decide +kernel)
set_option maxRecDepth 20000 in
theorem gL_law_X8_merge : GoodIn wsL_law (wsV RL 23 RX8 yX8_merge wsX8_merge) := goodIn_app (goodIn_r _ [207, 208, 209, 2] rfl (by decide +kernel)) ggL_law_X8_merge
set_option maxRecDepth 20000 in
theorem ggL_law_X8_misses : GoodIn wsL_law wsX8_misses := goodIn_r _ [828, 257, 42, 136, 805, 806, 807, 2, 808, 795, 180, 181, 182, 253, 254, 255, 256, 32, 457, 458, 459, 829, 259, 830, 831, 267, 262, 832, 723, 724, 725, 268, 833, 726, 727, 728, 468, 885, 886, 887, 888, 889, 890, 891, 892, 893, 894, 895, 896, 897, 898, 899, 900, 901, 989, 990, 991, 992, 993, 994, 995, 996] rfl (by decide +kernel)
set_option maxRecDepth 20000 in
theorem gL_law_X8_misses : GoodIn wsL_law (wsV RL 113 RX8 yX8_misses wsX8_misses) := goodIn_app (goodIn_r _ [825, 826, 827, 2] rfl (by decide +kernel)) ggL_law_X8_misses
set_option maxRecDepth 20000 in
theorem ggL_law_X8_model : GoodIn wsL_law wsX8_model := goodIn_r _ [794, 257, 795, 42, 141, 142, 143, 2, 144, 145, 146, 147, 148, 149, 453, 454, 455, 456, 253, 254, 255, 256, 32, 457, 458, 459, 885, 886, 887, 888, 889, 890, 891, 892, 893, 894, 895, 896, 897, 898, 899, 900, 901, 989, 990, 991, 992, 993, 994, 995, 996] rfl (by decide +kernel)
set_option maxRecDepth 20000 in
theorem gL_law_X8_model : GoodIn wsL_law (wsV RL 101 RX8 yX8_model wsX8_model) := goodIn_app (goodIn_r _ [791, 792, 793, 2] rfl (by decide +kernel)) ggL_law_X8_model
set_option maxRecDepth 20000 in
theorem ggL_law_X8_needed : GoodIn wsL_law wsX8_needed := goodIn_r _ [804, 42, 805, 806, 807, 2, 808, 795, 885, 886, 887, 888, 889, 890, 891, 892, 893, 894, 895, 896, 897, 898, 899, 900, 901] rfl (by decide +kernel)
set_option maxRecDepth 20000 in
theorem gL_law_X8_needed : GoodIn wsL_law (wsV RL 105 RX8 yX8_needed wsX8_needed) := goodIn_app (goodIn_r _ [801, 802, 803, 2] rfl (by decide +kernel)) ggL_law_X8_needed
set_option maxRecDepth 20000 in
theorem ggL_law_X8_now : GoodIn wsL_law wsX8_now := goodIn_r _ [135, 136, 137, 138, 2, 139, 140, 141, 142, 143, 144, 145, 146, 147, 148, 149, 885, 886, 887, 888, 889, 890, 891, 892, 893, 894, 895, 896, 897, 898, 899, 900, 901] rfl (by decide +kernel)
set_option maxRecDepth 20000 in
theorem gL_law_X8_now : GoodIn wsL_law (wsV RL 13 RX8 yX8_now wsX8_now) := goodIn_app (goodIn_r _ [132, 133, 134, 2] rfl (by decide +kernel)) ggL_law_X8_now
set_option maxRecDepth 20000 in
theorem ggL_law_X8_row : GoodIn wsL_law wsX8_row := goodIn_r _ [167, 168, 169, 170, 2, 171, 16, 22, 172, 173, 174, 137, 138, 139, 140, 175, 176, 177, 178, 179, 180, 181, 182, 183, 15, 184, 185, 186, 187, 188, 189, 49, 50, 51, 52, 53, 190, 191, 141, 142, 143, 144, 145, 146, 147, 148, 149, 885, 886, 887, 888, 889, 890, 891, 892, 893, 894, 895, 896, 897, 898, 899, 900, 901, 953, 954, 955, 956, 957, 958, 959] rfl (by decide +kernel)
set_option maxRecDepth 20000 in
theorem gL_law_X8_row : GoodIn wsL_law (wsV RL 18 RX8 yX8_row wsX8_row) := goodIn_app (goodIn_r _ [164, 165, 166, 2] rfl (by decide +kernel)) ggL_law_X8_row
set_option maxRecDepth 20000 in
theorem ggL_law_X8_shift : GoodIn wsL_law wsX8_shift := goodIn_r _ [843, 844, 845, 43, 44, 846, 847, 848, 147, 849, 137, 138, 2, 139, 140, 253, 254, 255, 256, 257, 32, 850, 851, 852, 853, 22, 571, 36, 854, 60, 61, 62, 572, 35, 573, 574, 83, 575, 80, 576, 577, 578, 579, 82, 76, 580, 581, 81, 77, 218, 19, 219, 220, 58, 57, 221, 215, 216, 217, 458, 459, 582, 583, 584, 585, 586, 587, 588, 589, 590, 591, 592, 593, 594, 79, 595, 596, 597, 598, 599, 600, 601, 602, 603, 604, 605, 606, 607, 608, 609, 610, 611, 612, 613, 614, 615, 616, 617, 618, 619, 620, 621, 622, 623, 624, 625, 626, 627, 628, 855, 856, 857, 885, 886, 887, 888, 889, 890, 891, 892, 893, 894, 895, 896, 897, 898, 899, 900, 901, 974, 975, 976, 977, 978, 979, 980, 981, 982, 983, 989, 990, 991, 992, 993, 994, 995, 996, 953, 954, 955, 956, 957, 958, 959, 960, 961, 962, 997, 998, 999, 1000] rfl (by decide +kernel)
set_option maxRecDepth 20000 in
theorem gL_law_X8_shift : GoodIn wsL_law (wsV RL 117 RX8 yX8_shift wsX8_shift) := goodIn_app (goodIn_r _ [840, 841, 842, 2] rfl (by decide +kernel)) ggL_law_X8_shift
set_option maxRecDepth 20000 in
theorem ggL_law_X8_status : GoodIn wsL_law wsX8_status := goodIn_r _ [880, 149, 885, 886, 887, 888, 889, 890, 891, 892, 893, 894, 895, 896, 897, 898, 899, 900, 901] rfl (by decide +kernel)
set_option maxRecDepth 20000 in
theorem gL_law_X8_status : GoodIn wsL_law (wsV RL 126 RX8 yX8_status wsX8_status) := goodIn_app (goodIn_r _ [877, 878, 879, 2] rfl (by decide +kernel)) ggL_law_X8_status