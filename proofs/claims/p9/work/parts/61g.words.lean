set_option maxRecDepth 20000 in
theorem ggL_law_X9_law : GoodIn wsL_law wsX9_law := goodIn_r _ [672, 118, 116, 117, 159, 160, 161, 5, 162, 163, 634, 635, 636, 637, 480, 156, 157, 158, 902, 903, 904, 905, 906, 907, 908, 909, 910, 911, 912, 913, 914, 915, 916, 917, 918, 919, 920, 921, 922, 923, 924, 925, 926, 927, 928, 929, 930, 931, 932, 933, 934, 935, 936, 937, 938, 939, 940, 941, 942, 943, 944, 945, 946, 947, 948, 949, 950, 951, 952] rfl (by decide +kernel)
set_option maxRecDepth 20000 in
theorem gL_law_X9_law : GoodIn wsL_law (wsV RL 65 RX9 yX9_law wsX9_law) := goodIn_app (goodIn_r _ [669, 670, 671, 5] rfl (by decide +kernel)) ggL_law_X9_law
set_option maxRecDepth 20000 in
theorem ggL_law_X9_leads : GoodIn wsL_law wsX9_leads := goodIn_r _ [243, 203, 204, 5, 205, 206, 156, 157, 158, 200, 201, 202, 155, 232, 233, 234, 235, 101, 102, 902, 903, 904, 905, 906, 907, 908, 909, 910, 911, 912, 913, 914, 915, 916, 917, 918, 919, 920, 921, 922, 923, 924, 925, 926, 927, 928, 929, 930, 931, 932, 933, 934, 935, 936, 937, 938, 939, 940, 941, 942, 943, 944, 945, 946, 947, 948, 949, 950, 951, 952] rfl (by decide +kernel)
set_option maxRecDepth 20000 in
theorem gL_law_X9_leads : GoodIn wsL_law (wsV RL 32 RX9 yX9_leads wsX9_leads) := goodIn_app (goodIn_r _ [240, 241, 242, 5] rfl (by decide +kernel)) ggL_law_X9_leads
set_option maxRecDepth 20000 in
theorem ggL_law_X9_limit : GoodIn wsL_law wsX9_limit := goodIn_r _ [680, 155, 119, 156, 157, 5, 158, 159, 160, 161, 162, 163, 634, 635, 636, 637, 480, 902, 903, 904, 905, 906, 907, 908, 909, 910, 911, 912, 913, 914, 915, 916, 917, 918, 919, 920, 921, 922, 923, 924, 925, 926, 927, 928, 929, 930, 931, 932, 933, 934, 935, 936, 937, 938, 939, 940, 941, 942, 943, 944, 945, 946, 947, 948, 949, 950, 951, 952] rfl (by decide +kernel)
set_option maxRecDepth 20000 in
theorem gL_law_X9_limit : GoodIn wsL_law (wsV RL 69 RX9 yX9_limit wsX9_limit) := goodIn_app (goodIn_r _ [677, 678, 679, 5] rfl (by decide +kernel)) ggL_law_X9_limit
set_option maxRecDepth 20000 in
theorem ggL_law_X9_merge : GoodIn wsL_law wsX9_merge := goodIn_r _ [229, 101, 230, 102, 231, 200, 201, 5, 202, 155, 156, 157, 158, 159, 160, 161, 162, 163, 203, 204, 205, 206, 232, 233, 234, 235, 902, 903, 904, 905, 906, 907, 908, 909, 910, 911, 912, 913, 914, 915, 916, 917, 918, 919, 920, 921, 922, 923, 924, 925, 926, 927, 928, 929, 930, 931, 932, 933, 934, 935, 936, 937, 938, 939, 940, 941, 942, 943, 944, 945, 946, 947, 948, 949, 950, 951, 952] rfl (by decide +kernel)
set_option maxRecDepth 20000 in
theorem gL_law_X9_merge : GoodIn wsL_law (wsV RL 27 RX9 yX9_merge wsX9_merge) := goodIn_app (goodIn_r _ [226, 227, 228, 5] rfl (by decide +kernel)) ggL_law_X9_merge
set_option maxRecDepth 20000 in
theorem ggL_law_X9_misses : GoodIn wsL_law wsX9_misses := goodIn_r _ [837, 800, 480, 633, 156, 157, 5, 158, 203, 204, 205, 206, 813, 814, 815, 816, 129, 108, 109, 110, 838, 712, 713, 714, 122, 715, 716, 717, 718, 121, 634, 635, 636, 637, 839, 730, 731, 732, 123, 154, 119, 902, 903, 904, 905, 906, 907, 908, 909, 910, 911, 912, 913, 914, 915, 916, 917, 918, 919, 920, 921, 922, 923, 924, 925, 926, 927, 928, 929, 930, 931, 932, 933, 934, 935, 936, 937, 938, 939, 940, 941, 942, 943, 944, 945, 946, 947, 948, 949, 950, 951, 952] rfl (by decide +kernel)
set_option maxRecDepth 20000 in
theorem gL_law_X9_misses : GoodIn wsL_law (wsV RL 116 RX9 yX9_misses wsX9_misses) := goodIn_app (goodIn_r _ [834, 835, 836, 5] rfl (by decide +kernel)) ggL_law_X9_misses
set_option maxRecDepth 20000 in
theorem ggL_law_X9_model : GoodIn wsL_law wsX9_model := goodIn_r _ [799, 480, 800, 129, 159, 160, 161, 5, 162, 163, 902, 903, 904, 905, 906, 907, 908, 909, 910, 911, 912, 913, 914, 915, 916, 917, 918, 919, 920, 921, 922, 923, 924, 925, 926, 927, 928, 929, 930, 931, 932, 933, 934, 935, 936, 937, 938, 939, 940, 941, 942, 943, 944, 945, 946, 947, 948, 949, 950, 951, 952] rfl (by decide +kernel)
set_option maxRecDepth 20000 in
theorem gL_law_X9_model : GoodIn wsL_law (wsV RL 104 RX9 yX9_model wsX9_model) := goodIn_app (goodIn_r _ [796, 797, 798, 5] rfl (by decide +kernel)) ggL_law_X9_model
set_option maxRecDepth 20000 in
theorem ggL_law_X9_needed : GoodIn wsL_law wsX9_needed := goodIn_r _ [812, 800, 156, 157, 5, 158, 813, 814, 815, 816, 129, 480, 108, 109, 110, 902, 903, 904, 905, 906, 907, 908, 909, 910, 911, 912, 913, 914, 915, 916, 917, 918, 919, 920, 921, 922, 923, 924, 925, 926, 927, 928, 929, 930, 931, 932, 933, 934, 935, 936, 937, 938, 939, 940, 941, 942, 943, 944, 945, 946, 947, 948, 949, 950, 951, 952] rfl (by decide +kernel)
set_option maxRecDepth 20000 in
theorem gL_law_X9_needed : GoodIn wsL_law (wsV RL 108 RX9 yX9_needed wsX9_needed) := goodIn_app (goodIn_r _ [809, 810, 811, 5] rfl (by decide +kernel)) ggL_law_X9_needed
set_option maxRecDepth 20000 in
theorem ggL_law_X9_now : GoodIn wsL_law wsX9_now := goodIn_r _ [153, 154, 155, 156, 157, 5, 158, 159, 160, 161, 162, 163, 902, 903, 904, 905, 906, 907, 908, 909, 910, 911, 912, 913, 914, 915, 916, 917, 918, 919, 920, 921, 922, 923, 924, 925, 926, 927, 928, 929, 930, 931, 932, 933, 934, 935, 936, 937, 938, 939, 940, 941, 942, 943, 944, 945, 946, 947, 948, 949, 950, 951, 952] rfl (by decide +kernel)
set_option maxRecDepth 20000 in
theorem gL_law_X9_now : GoodIn wsL_law (wsV RL 17 RX9 yX9_now wsX9_now) := goodIn_app (goodIn_r _ [150, 151, 152, 5] rfl (by decide +kernel)) ggL_law_X9_now