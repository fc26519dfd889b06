set_option maxRecDepth 20000 in
theorem ggL_law_X8_held : GoodIn wsL_law wsX8_held := goodIn_r _ [736, 253, 254, 255, 2, 256, 257, 32, 989, 990, 991, 992, 993, 994, 995, 996, 885, 886, 887, 888, 889, 890, 891, 892, 893, 894, 895, 896, 897, 898, 899, 900, 901] rfl (by decide +kernel)
set_option maxRecDepth 20000 in
theorem gL_law_X8_held : GoodIn wsL_law (wsV RL 83 RX8 yX8_held wsX8_held) := goodIn_app (goodIn_r _ [733, 734, 735, 2] rfl (by decide +kernel)) ggL_law_X8_held
set_option maxRecDepth 20000 in
theorem ggL_law_X8_history : GoodIn wsL_law wsX8_history := goodIn_r _ [767, 571, 40, 768, 769, 770, 2, 771, 253, 254, 255, 256, 257, 32, 180, 181, 182, 137, 138, 139, 140, 772, 39, 773, 774, 272, 87, 88, 695, 696, 697, 885, 886, 887, 888, 889, 890, 891, 892, 893, 894, 895, 896, 897, 898, 899, 900, 901, 984, 985, 986, 987, 988] rfl (by decide +kernel)
set_option maxRecDepth 20000 in
theorem gL_law_X8_history : GoodIn wsL_law (wsV RL 92 RX8 yX8_history wsX8_history) := goodIn_app (goodIn_r _ [764, 765, 766, 2] rfl (by decide +kernel)) ggL_law_X8_history
set_option maxRecDepth 20000 in
theorem ggL_law_X8_hung : GoodIn wsL_law wsX8_hung := goodIn_r _ [820, 795, 42, 253, 254, 255, 2, 256, 257, 32, 457, 458, 459, 885, 886, 887, 888, 889, 890, 891, 892, 893, 894, 895, 896, 897, 898, 899, 900, 901] rfl (by decide +kernel)
set_option maxRecDepth 20000 in
theorem gL_law_X8_hung : GoodIn wsL_law (wsV RL 109 RX8 yX8_hung wsX8_hung) := goodIn_app (goodIn_r _ [817, 818, 819, 2] rfl (by decide +kernel)) ggL_law_X8_hung
set_option maxRecDepth 20000 in
theorem ggL_law_X8_init : GoodIn wsL_law wsX8_init := goodIn_r _ [9, 10, 11, 12, 13, 14, 15, 16, 17, 18, 19, 20, 21, 22, 23, 24, 25, 26, 27, 28, 29, 30, 31, 32, 33, 34, 35, 36, 37, 38, 39, 40, 41, 42, 43, 44, 45, 46, 47, 48, 49, 50, 51, 52, 53, 54, 55, 56, 57, 58, 59, 60, 61, 62, 63, 64, 65, 66, 67, 68, 69, 70, 71, 72, 73, 74, 75, 76, 77, 78, 79, 80, 81, 82, 83, 84, 85, 86, 87, 88, 89, 90, 953, 954, 955, 956, 957, 958, 959, 885, 886, 887, 888, 889, 890, 891, 892, 893, 894, 895, 896, 897, 898, 899, 900, 901, 960, 961, 962, 963, 964, 965, 966, 967, 968, 969, 970, 971, 972, 973, 974, 975, 976, 977, 978, 979, 980, 981, 982, 983, 984, 985, 986, 987, 988] rfl (by decide +kernel)
set_option maxRecDepth 20000 in
theorem gL_law_X8_init : GoodIn wsL_law (wsX8_init) := ggL_law_X8_init
set_option maxRecDepth 20000 in
theorem ggL_law_X8_kept : GoodIn wsL_law wsX8_kept := goodIn_r _ [710, 571, 253, 254, 255, 2, 256, 257, 32, 180, 181, 182, 989, 990, 991, 992, 993, 994, 995, 996, 885, 886, 887, 888, 889, 890, 891, 892, 893, 894, 895, 896, 897, 898, 899, 900, 901] rfl (by decide +kernel)
set_option maxRecDepth 20000 in
theorem gL_law_X8_kept : GoodIn wsL_law (wsV RL 74 RX8 yX8_kept wsX8_kept) := goodIn_app (goodIn_r _ [707, 708, 709, 2] rfl (by decide +kernel)) ggL_law_X8_kept
set_option maxRecDepth 20000 in
theorem ggL_law_X8_law : GoodIn wsL_law wsX8_law := goodIn_r _ [668, 141, 142, 143, 2, 144, 145, 146, 147, 148, 149, 253, 254, 255, 256, 257, 32, 989, 990, 991, 992, 993, 994, 995, 996, 885, 886, 887, 888, 889, 890, 891, 892, 893, 894, 895, 896, 897, 898, 899, 900, 901] rfl (by decide +kernel)
set_option maxRecDepth 20000 in
theorem gL_law_X8_law : GoodIn wsL_law (wsV RL 61 RX8 yX8_law wsX8_law) := goodIn_app (goodIn_r _ [665, 666, 667, 2] rfl (by decide +kernel)) ggL_law_X8_law
set_option maxRecDepth 20000 in
theorem ggL_law_X8_leads : GoodIn wsL_law wsX8_leads := goodIn_r _ [239, 20, 180, 181, 2, 182, 137, 138, 139, 140, 218, 19, 219, 220, 58, 57, 221, 215, 216, 217, 885, 886, 887, 888, 889, 890, 891, 892, 893, 894, 895, 896, 897, 898, 899, 900, 901, 960, 961, 962] rfl (by decide +kernel)
set_option maxRecDepth 20000 in
theorem gL_law_X8_leads : GoodIn wsL_law (wsV RL 28 RX8 yX8_leads wsX8_leads) := goodIn_app (goodIn_r _ [236, 237, 238, 2] rfl (by decide +kernel)) ggL_law_X8_leads
set_option maxRecDepth 20000 in
theorem ggL_law_X8_limit : GoodIn wsL_law wsX8_limit := goodIn_r _ [676, 137, 138, 2, 139, 140, 141, 142, 143, 144, 145, 146, 147, 148, 149, 253, 254, 255, 256, 257, 32, 989, 990, 991, 992, 993, 994, 995, 996, 885, 886, 887, 888, 889, 890, 891, 892, 893, 894, 895, 896, 897, 898, 899, 900, 901] rfl (by decide +kernel)
set_option maxRecDepth 20000 in
theorem gL_law_X8_limit : GoodIn wsL_law (wsV RL 66 RX8 yX8_limit wsX8_limit) := goodIn_app (goodIn_r _ [673, 674, 675, 2] rfl (by decide +kernel)) ggL_law_X8_limit