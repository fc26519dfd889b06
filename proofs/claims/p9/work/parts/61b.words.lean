set_option maxRecDepth 20000 in
theorem ggL_law_X8_age : GoodIn wsL_law wsX8_age := goodIn_r _ [722, 136, 253, 254, 255, 2, 256, 257, 32, 180, 181, 182, 723, 259, 724, 725, 268, 726, 727, 728, 468, 989, 990, 991, 992, 993, 994, 995, 996, 885, 886, 887, 888, 889, 890, 891, 892, 893, 894, 895, 896, 897, 898, 899, 900, 901] rfl (by decide +kernel)
set_option maxRecDepth 20000 in
theorem gL_law_X8_age : GoodIn wsL_law (wsV RL 79 RX8 yX8_age wsX8_age) := goodIn_app (goodIn_of _ (by decide +kernel)) ggL_law_X8_age
set_option maxRecDepth 20000 in
theorem ggL_law_X8_count : GoodIn wsL_law wsX8_count := goodIn_r _ [872, 136, 16, 20, 252, 257, 795, 40, 26, 885, 886, 887, 888, 889, 890, 891, 892, 893, 894, 895, 896, 897, 898, 899, 900, 901, 953, 954, 955, 956, 957, 958, 959, 960, 961, 962, 984, 985, 986, 987, 988, 963, 964] rfl (by decide +kernel)
set_option maxRecDepth 20000 in
theorem gL_law_X8_count : GoodIn wsL_law (wsV RL 122 RX8 yX8_count wsX8_count) := goodIn_app (goodIn_of _ (by decide +kernel)) ggL_law_X8_count
set_option maxRecDepth 20000 in
theorem ggL_law_X8_end : GoodIn wsL_law wsX8_end := goodIn_r _ [301, 26, 885, 886, 887, 888, 889, 890, 891, 892, 893, 894, 895, 896, 897, 898, 899, 900, 901, 963, 964] rfl (by decide +kernel)
set_option maxRecDepth 20000 in
theorem gL_law_X8_end : GoodIn wsL_law (wsV RL 41 RX8 yX8_end wsX8_end) := goodIn_app (goodIn_of _ (by decide +kernel)) ggL_law_X8_end
set_option maxRecDepth 20000 in
theorem ggL_law_X8_erase : GoodIn wsL_law wsX8_erase := goodIn_r _ [247, 248, 249, 250, 2, 251, 22, 252, 40, 16, 180, 181, 182, 253, 254, 255, 256, 257, 32, 258, 259, 260, 261, 262, 263, 264, 265, 266, 267, 268, 269, 39, 270, 271, 272, 87, 90, 273, 274, 15, 275, 276, 186, 49, 277, 278, 279, 280, 50, 51, 52, 53, 141, 142, 143, 144, 145, 146, 147, 148, 149, 885, 886, 887, 888, 889, 890, 891, 892, 893, 894, 895, 896, 897, 898, 899, 900, 901, 989, 990, 991, 992, 993, 994, 995, 996, 984, 985, 986, 987, 988, 953, 954, 955, 956, 957, 958, 959] rfl (by decide +kernel)
set_option maxRecDepth 20000 in
theorem gL_law_X8_erase : GoodIn wsL_law (wsV RL 33 RX8 yX8_erase wsX8_erase) := goodIn_app (goodIn_of _ (by decide +kernel)) ggL_law_X8_erase
set_option maxRecDepth 20000 in
theorem ggL_law_X8_fault : GoodIn wsL_law wsX8_fault := goodIn_r _ [562, 45, 885, 886, 887, 888, 889, 890, 891, 892, 893, 894, 895, 896, 897, 898, 899, 900, 901] rfl (by decide +kernel)
set_option maxRecDepth 20000 in
theorem gL_law_X8_fault : GoodIn wsL_law (wsV RL 50 RX8 yX8_fault wsX8_fault) := goodIn_app (goodIn_of _ (by decide +kernel)) ggL_law_X8_fault
set_option maxRecDepth 20000 in
theorem ggL_law_X8_feed : GoodIn wsL_law wsX8_feed := goodIn_r _ [288, 26, 289, 25, 290, 291, 292, 66, 885, 886, 887, 888, 889, 890, 891, 892, 893, 894, 895, 896, 897, 898, 899, 900, 901, 963, 964] rfl (by decide +kernel)
set_option maxRecDepth 20000 in
theorem gL_law_X8_feed : GoodIn wsL_law (wsV RL 37 RX8 yX8_feed wsX8_feed) := goodIn_app (goodIn_of _ (by decide +kernel)) ggL_law_X8_feed
set_option maxRecDepth 20000 in
theorem ggL_law_X8_fill : GoodIn wsL_law wsX8_fill := goodIn_r _ [744, 745, 746, 747, 2, 748, 136, 252, 40, 137, 138, 139, 140, 253, 254, 255, 256, 257, 32, 749, 39, 750, 751, 272, 752, 753, 754, 755, 22, 36, 572, 35, 573, 574, 83, 575, 80, 576, 577, 578, 579, 82, 76, 580, 581, 81, 77, 218, 19, 219, 220, 58, 57, 221, 215, 216, 217, 458, 459, 582, 583, 584, 585, 586, 587, 588, 589, 590, 591, 592, 593, 594, 79, 595, 596, 147, 597, 598, 599, 600, 601, 602, 603, 604, 605, 606, 607, 608, 609, 610, 611, 612, 613, 614, 615, 616, 617, 618, 619, 620, 621, 622, 623, 624, 625, 626, 627, 628, 692, 693, 694, 87, 88, 89, 90, 695, 696, 697, 141, 142, 143, 144, 145, 146, 148, 149, 885, 886, 887, 888, 889, 890, 891, 892, 893, 894, 895, 896, 897, 898, 899, 900, 901, 984, 985, 986, 987, 988, 974, 975, 976, 977, 978, 979, 980, 981, 982, 983, 989, 990, 991, 992, 993, 994, 995, 996, 953, 954, 955, 956, 957, 958, 959, 960, 961, 962, 997, 998, 999, 1000] rfl (by decide +kernel)
set_option maxRecDepth 20000 in
theorem gL_law_X8_fill : GoodIn wsL_law (wsV RL 87 RX8 yX8_fill wsX8_fill) := goodIn_app (goodIn_of _ (by decide +kernel)) ggL_law_X8_fill
set_option maxRecDepth 20000 in
theorem ggL_law_X8_freshen : GoodIn wsL_law wsX8_freshen := goodIn_r _ [684, 22, 253, 254, 255, 2, 256, 257, 32, 141, 142, 143, 144, 145, 146, 147, 148, 149, 685, 686, 687, 688, 36, 136, 40, 572, 35, 573, 574, 83, 575, 80, 576, 577, 578, 579, 82, 76, 580, 581, 81, 77, 218, 19, 219, 220, 58, 57, 221, 215, 216, 217, 458, 459, 582, 583, 584, 585, 586, 587, 588, 589, 590, 591, 592, 593, 594, 79, 595, 596, 597, 598, 599, 600, 601, 602, 603, 604, 605, 606, 607, 608, 609, 610, 611, 612, 613, 614, 615, 616, 617, 618, 619, 620, 621, 622, 623, 624, 625, 626, 627, 628, 689, 259, 690, 691, 262, 464, 466, 264, 265, 266, 267, 268, 692, 39, 693, 694, 272, 87, 88, 89, 90, 695, 696, 697, 989, 990, 991, 992, 993, 994, 995, 996, 885, 886, 887, 888, 889, 890, 891, 892, 893, 894, 895, 896, 897, 898, 899, 900, 901, 974, 975, 976, 977, 978, 979, 980, 981, 982, 983, 953, 954, 955, 956, 957, 958, 959, 960, 961, 962, 997, 998, 999, 1000, 984, 985, 986, 987, 988] rfl (by decide +kernel)
set_option maxRecDepth 20000 in
theorem gL_law_X8_freshen : GoodIn wsL_law (wsV RL 70 RX8 yX8_freshen wsX8_freshen) := goodIn_app (goodIn_of _ (by decide +kernel)) ggL_law_X8_freshen