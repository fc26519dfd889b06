set_option maxRecDepth 20000 in
theorem ggL_law_X9_feed : GoodIn wsL_law wsX9_feed := goodIn_r _ [296, 297, 107, 105, 902, 903, 904, 905, 906, 907, 908, 909, 910, 911, 912, 913, 914, 915, 916, 917, 918, 919, 920, 921, 922, 923, 924, 925, 926, 927, 928, 929, 930, 931, 932, 933, 934, 935, 936, 937, 938, 939, 940, 941, 942, 943, 944, 945, 946, 947, 948, 949, 950, 951, 952] rfl (by decide +kernel)
set_option maxRecDepth 20000 in
theorem gL_law_X9_feed : GoodIn wsL_law (wsV RL 40 RX9 yX9_feed wsX9_feed) := goodIn_app (goodIn_r _ [293, 294, 295, 5] rfl (by decide +kernel)) ggL_law_X9_feed
set_option maxRecDepth 20000 in
theorem ggL_law_X9_fill : GoodIn wsL_law wsX9_fill := goodIn_r _ [759, 154, 702, 103, 156, 157, 5, 158, 159, 160, 161, 162, 163, 634, 635, 636, 637, 480, 760, 761, 762, 763, 638, 639, 640, 641, 115, 113, 232, 233, 234, 235, 101, 102, 642, 643, 644, 645, 108, 109, 114, 633, 110, 111, 112, 646, 647, 648, 649, 650, 651, 652, 653, 654, 655, 656, 199, 97, 99, 657, 658, 659, 660, 100, 96, 95, 98, 661, 662, 663, 664, 703, 704, 705, 706, 124, 125, 126, 127, 128, 902, 903, 904, 905, 906, 907, 908, 909, 910, 911, 912, 913, 914, 915, 916, 917, 918, 919, 920, 921, 922, 923, 924, 925, 926, 927, 928, 929, 930, 931, 932, 933, 934, 935, 936, 937, 938, 939, 940, 941, 942, 943, 944, 945, 946, 947, 948, 949, 950, 951, 952] rfl (by decide +kernel)
set_option maxRecDepth 20000 in
theorem gL_law_X9_fill : GoodIn wsL_law (wsV RL 91 RX9 yX9_fill wsX9_fill) := goodIn_app (goodIn_r _ [756, 757, 758, 5] rfl (by decide +kernel)) ggL_law_X9_fill
set_option maxRecDepth 20000 in
theorem ggL_law_X9_freshen : GoodIn wsL_law wsX9_freshen := goodIn_r _ [701, 103, 154, 118, 633, 116, 117, 121, 122, 123, 702, 120, 634, 635, 636, 5, 637, 480, 156, 157, 158, 159, 160, 161, 162, 163, 638, 639, 640, 641, 115, 113, 232, 233, 234, 235, 101, 102, 642, 643, 644, 645, 108, 109, 114, 110, 111, 112, 646, 647, 648, 649, 650, 651, 652, 653, 654, 655, 656, 199, 97, 99, 657, 658, 659, 660, 100, 96, 95, 98, 661, 662, 663, 664, 703, 704, 705, 706, 124, 125, 126, 127, 128, 902, 903, 904, 905, 906, 907, 908, 909, 910, 911, 912, 913, 914, 915, 916, 917, 918, 919, 920, 921, 922, 923, 924, 925, 926, 927, 928, 929, 930, 931, 932, 933, 934, 935, 936, 937, 938, 939, 940, 941, 942, 943, 944, 945, 946, 947, 948, 949, 950, 951, 952] rfl (by decide +kernel)
set_option maxRecDepth 20000 in
theorem gL_law_X9_freshen : GoodIn wsL_law (wsV RL 73 RX9 yX9_freshen wsX9_freshen) := goodIn_app (goodIn_r _ [698, 699, 700, 5] rfl (by decide +kernel)) ggL_law_X9_freshen
set_option maxRecDepth 20000 in
theorem ggL_law_X9_held : GoodIn wsL_law wsX9_held := goodIn_r _ [740, 120, 634, 635, 636, 5, 637, 480, 156, 157, 158, 902, 903, 904, 905, 906, 907, 908, 909, 910, 911, 912, 913, 914, 915, 916, 917, 918, 919, 920, 921, 922, 923, 924, 925, 926, 927, 928, 929, 930, 931, 932, 933, 934, 935, 936, 937, 938, 939, 940, 941, 942, 943, 944, 945, 946, 947, 948, 949, 950, 951, 952] rfl (by decide +kernel)
set_option maxRecDepth 20000 in
theorem gL_law_X9_held : GoodIn wsL_law (wsV RL 86 RX9 yX9_held wsX9_held) := goodIn_app (goodIn_r _ [737, 738, 739, 5] rfl (by decide +kernel)) ggL_law_X9_held
set_option maxRecDepth 20000 in
theorem ggL_law_X9_history : GoodIn wsL_law wsX9_history := goodIn_r _ [778, 633, 127, 779, 780, 781, 5, 782, 103, 702, 124, 125, 126, 203, 204, 205, 206, 156, 157, 158, 200, 201, 202, 155, 902, 903, 904, 905, 906, 907, 908, 909, 910, 911, 912, 913, 914, 915, 916, 917, 918, 919, 920, 921, 922, 923, 924, 925, 926, 927, 928, 929, 930, 931, 932, 933, 934, 935, 936, 937, 938, 939, 940, 941, 942, 943, 944, 945, 946, 947, 948, 949, 950, 951, 952] rfl (by decide +kernel)
set_option maxRecDepth 20000 in
theorem gL_law_X9_history : GoodIn wsL_law (wsV RL 96 RX9 yX9_history wsX9_history) := goodIn_app (goodIn_r _ [775, 776, 777, 5] rfl (by decide +kernel)) ggL_law_X9_history
set_option maxRecDepth 20000 in
theorem ggL_law_X9_hung : GoodIn wsL_law wsX9_hung := goodIn_r _ [824, 800, 634, 635, 636, 5, 637, 480, 156, 157, 158, 813, 814, 815, 816, 129, 108, 109, 110, 902, 903, 904, 905, 906, 907, 908, 909, 910, 911, 912, 913, 914, 915, 916, 917, 918, 919, 920, 921, 922, 923, 924, 925, 926, 927, 928, 929, 930, 931, 932, 933, 934, 935, 936, 937, 938, 939, 940, 941, 942, 943, 944, 945, 946, 947, 948, 949, 950, 951, 952] rfl (by decide +kernel)
set_option maxRecDepth 20000 in
theorem gL_law_X9_hung : GoodIn wsL_law (wsV RL 112 RX9 yX9_hung wsX9_hung) := goodIn_app (goodIn_r _ [821, 822, 823, 5] rfl (by decide +kernel)) ggL_law_X9_hung
set_option maxRecDepth 20000 in
theorem ggL_law_X9_init : GoodIn wsL_law wsX9_init := goodIn_r _ [93, 94, 11, 12, 41, 95, 96, 97, 98, 99, 21, 100, 101, 102, 103, 104, 105, 106, 107, 108, 109, 110, 111, 112, 78, 113, 114, 115, 116, 117, 118, 119, 120, 121, 122, 123, 124, 125, 126, 127, 128, 129, 130, 131, 902, 903, 904, 905, 906, 907, 908, 909, 910, 911, 912, 913, 914, 915, 916, 917, 918, 919, 920, 921, 922, 923, 924, 925, 926, 927, 928, 929, 930, 931, 932, 933, 934, 935, 936, 937, 938, 939, 940, 941, 942, 943, 944, 945, 946, 947, 948, 949, 950, 951, 952] rfl (by decide +kernel)
set_option maxRecDepth 20000 in
theorem gL_law_X9_init : GoodIn wsL_law (wsX9_init) := ggL_law_X9_init
set_option maxRecDepth 20000 in
theorem ggL_law_X9_kept : GoodIn wsL_law wsX9_kept := goodIn_r _ [714, 122, 633, 715, 716, 717, 5, 718, 121, 634, 635, 636, 637, 480, 156, 157, 158, 203, 204, 205, 206, 902, 903, 904, 905, 906, 907, 908, 909, 910, 911, 912, 913, 914, 915, 916, 917, 918, 919, 920, 921, 922, 923, 924, 925, 926, 927, 928, 929, 930, 931, 932, 933, 934, 935, 936, 937, 938, 939, 940, 941, 942, 943, 944, 945, 946, 947, 948, 949, 950, 951, 952] rfl (by decide +kernel)
set_option maxRecDepth 20000 in
theorem gL_law_X9_kept : GoodIn wsL_law (wsV RL 78 RX9 yX9_kept wsX9_kept) := goodIn_app (goodIn_r _ [711, 712, 713, 5] rfl (by decide +kernel)) ggL_law_X9_kept