theorem mem_pl {ws big : List Cond} (ps : List Nat) (h : ws = ps.filterMap (fun i => big[i]?)) : ∀ w ∈ ws, w ∈ big := by
  intro w hw
  rw [h] at hw
  obtain ⟨i, -, hi⟩ := List.mem_filterMap.mp hw
  exact List.mem_of_getElem? hi
set_option maxRecDepth 100000 in
theorem lr_wsL_law_r1 : ∀ w ∈ wsL_law_r1, w ∈ lw_tbl := mem_pl [103, 104, 87, 875, 876, 95, 1295, 105, 106, 107, 108, 109, 110, 111, 112, 88, 288, 147, 148, 89, 289, 183, 290, 167] rfl
set_option maxRecDepth 100000 in
theorem lr_wsL_law_r2 : ∀ w ∈ wsL_law_r2, w ∈ lw_tbl := mem_pl [168, 91, 291, 184, 185, 92, 292, 222, 293, 224, 225, 93, 294, 262, 263, 94, 295, 146, 296, 297, 298, 303, 114, 115] rfl
set_option maxRecDepth 100000 in
theorem lr_wsL_law_r3 : ∀ w ∈ wsL_law_r3, w ∈ lw_tbl := mem_pl [116, 117, 119, 121, 123, 125, 150, 151, 152, 156, 157, 153, 154, 90, 155, 170, 171, 172, 173, 187, 188, 189, 190, 193] rfl
set_option maxRecDepth 100000 in
theorem lr_wsL_law_r4 : ∀ w ∈ wsL_law_r4, w ∈ lw_tbl := mem_pl [192, 227, 228, 229, 233, 234, 261, 235, 236, 230, 231, 232, 265, 266, 267, 268, 269, 271, 273, 877, 878, 879, 880, 884] rfl
set_option maxRecDepth 100000 in
theorem lr_wsL_law_r5 : ∀ w ∈ wsL_law_r5, w ∈ lw_tbl := mem_pl [885, 886, 887, 888, 889, 890, 891, 893, 676, 894, 899, 901, 906, 907, 908, 909, 910, 911, 912, 913, 914, 915, 916, 917] rfl
set_option maxRecDepth 100000 in
theorem lr_wsL_law_r6 : ∀ w ∈ wsL_law_r6, w ∈ lw_tbl := mem_pl [918, 919, 920, 921, 923, 924, 925, 926, 927, 929, 930, 931, 340, 341, 342, 343, 299, 344, 345, 346, 347, 348, 350, 0] rfl
set_option maxRecDepth 100000 in
theorem lr_wsL_law_r7 : ∀ w ∈ wsL_law_r7, w ∈ lw_tbl := mem_pl [351, 352, 353, 96, 354, 304, 1035, 1036, 1037, 1038, 882, 1039, 1040, 1041, 1042, 1043, 1045, 58, 1046, 881, 355, 356, 357, 358] rfl
set_option maxRecDepth 100000 in
theorem lr_wsL_law_r8 : ∀ w ∈ wsL_law_r8, w ∈ lw_tbl := mem_pl [359, 361, 1, 362, 363, 364, 365, 366, 367, 368, 369, 370, 371, 372, 373, 376, 2, 377, 127, 380, 3, 381, 130, 382] rfl
set_option maxRecDepth 100000 in
theorem lr_wsL_law_r9 : ∀ w ∈ wsL_law_r9, w ∈ lw_tbl := mem_pl [1047, 1048, 1049, 1050, 1051, 1055, 1056, 883, 1052, 1053, 1054, 1057, 1058, 1059, 1060, 383, 384, 385, 386, 387, 389, 4, 390, 393] rfl
set_option maxRecDepth 100000 in
theorem lr_wsL_law_r10 : ∀ w ∈ wsL_law_r10, w ∈ lw_tbl := mem_pl [5, 394, 397, 6, 398, 399, 402, 7, 403, 158, 1061, 1062, 1063, 1064, 1065, 892, 1066, 1068, 59, 1069, 404, 405, 406, 407] rfl
set_option maxRecDepth 100000 in
theorem lr_wsL_law_r11 : ∀ w ∈ wsL_law_r11, w ∈ lw_tbl := mem_pl [1070, 1071, 1072, 1073, 408, 409, 410, 411, 412, 414, 8, 415, 300, 416, 418, 9, 419, 301, 422, 102, 10, 424, 425, 426] rfl
set_option maxRecDepth 100000 in
theorem lr_wsL_law_r12 : ∀ w ∈ wsL_law_r12, w ∈ lw_tbl := mem_pl [428, 11, 429, 648, 650, 432, 12, 433, 275, 434, 437, 13, 438, 439, 441, 14, 442, 1074, 1075, 1076, 1077, 443, 444, 445] rfl
set_option maxRecDepth 100000 in
theorem lr_wsL_law_r13 : ∀ w ∈ wsL_law_r13, w ∈ lw_tbl := mem_pl [446, 449, 15, 450, 175, 1078, 1079, 1080, 1081, 895, 451, 452, 453, 454, 1082, 1083, 1084, 1085, 455, 456, 457, 458, 459, 461] rfl
set_option maxRecDepth 100000 in
theorem lr_wsL_law_r14 : ∀ w ∈ wsL_law_r14, w ∈ lw_tbl := mem_pl [16, 462, 423, 465, 17, 466, 194, 196, 197, 198, 199, 201, 195, 467, 469, 18, 470, 471, 472, 474, 19, 475, 476, 478] rfl
set_option maxRecDepth 100000 in
theorem lr_wsL_law_r15 : ∀ w ∈ wsL_law_r15, w ∈ lw_tbl := mem_pl [20, 479, 480, 482, 21, 483, 484, 486, 22, 537, 539, 29, 540, 541, 542, 543, 98, 544, 1296, 545, 546, 547, 548, 549] rfl
set_option maxRecDepth 100000 in
theorem lr_wsL_law_r16 : ∀ w ∈ wsL_law_r16, w ∈ lw_tbl := mem_pl [1297, 551, 552, 553, 554, 555, 556, 557, 558, 559, 560, 99, 561, 562, 563, 564, 565, 567, 568, 100, 569, 570, 571, 101] rfl
set_option maxRecDepth 100000 in
theorem lr_wsL_law_r17 : ∀ w ∈ wsL_law_r17, w ∈ lw_tbl := mem_pl [572, 573, 574, 575, 576, 577, 578, 579, 580, 581, 582, 583, 585, 587, 510, 512, 28, 513, 514, 97, 516, 517, 518, 519] rfl
set_option maxRecDepth 100000 in
theorem lr_wsL_law_r18 : ∀ w ∈ wsL_law_r18, w ∈ lw_tbl := mem_pl [521, 523, 525, 495, 496, 497, 499, 25, 500, 501, 503, 26, 504, 505, 506, 508, 27, 509, 589, 591, 30, 598, 600, 32] rfl
set_option maxRecDepth 100000 in
theorem lr_wsL_law_r19 : ∀ w ∈ wsL_law_r19, w ∈ lw_tbl := mem_pl [601, 609, 611, 33, 612, 594, 596, 31, 597, 592, 491, 492, 494, 24, 487, 488, 490, 23, 623, 34, 624, 625, 627, 35] rfl
set_option maxRecDepth 100000 in
theorem lr_wsL_law_r20 : ∀ w ∈ wsL_law_r20, w ∈ lw_tbl := mem_pl [628, 629, 630, 631, 633, 634, 635, 636, 652, 637, 654, 638, 656, 643, 645, 639, 640, 641, 642, 1086, 1087, 1088, 1089, 896] rfl
set_option maxRecDepth 100000 in
theorem lr_wsL_law_r21 : ∀ w ∈ wsL_law_r21, w ∈ lw_tbl := mem_pl [902, 898, 900, 903, 904, 905, 897, 1090, 1092, 60, 1093, 1094, 1096, 61, 1097, 1098, 1100, 62, 1101, 1102, 1104, 63, 1125, 1127] rfl
set_option maxRecDepth 100000 in
theorem lr_wsL_law_r22 : ∀ w ∈ wsL_law_r22, w ∈ lw_tbl := mem_pl [68, 1128, 1133, 1135, 70, 1136, 1129, 1131, 69, 1132, 1113, 1114, 1141, 1148, 1149, 1150, 1151, 1152, 1153, 1115, 1117, 66, 1118, 1123] rfl
set_option maxRecDepth 100000 in
theorem lr_wsL_law_r23 : ∀ w ∈ wsL_law_r23, w ∈ lw_tbl := mem_pl [1124, 1119, 1121, 67, 1122, 1137, 1139, 71, 1142, 1144, 72, 1145, 1146, 1147, 1154, 1156, 73, 1157, 1158, 1159, 1160, 1140, 1109, 1161] rfl
set_option maxRecDepth 100000 in
theorem lr_wsL_law_r24 : ∀ w ∈ wsL_law_r24, w ∈ lw_tbl := mem_pl [1110, 1112, 65, 1105, 1106, 1108, 64, 677, 678, 679, 680, 1162, 1163, 1164, 1165, 681, 682, 683, 684, 685, 688, 36, 689, 690] rfl
set_option maxRecDepth 100000 in
theorem lr_wsL_law_r25 : ∀ w ∈ wsL_law_r25, w ∈ lw_tbl := mem_pl [691, 693, 37, 694, 238, 237, 697, 699, 38, 700, 239, 701, 703, 39, 704, 705, 707, 40, 708, 709, 710, 711, 712, 713] rfl
set_option maxRecDepth 100000 in
theorem lr_wsL_law_r26 : ∀ w ∈ wsL_law_r26, w ∈ lw_tbl := mem_pl [715, 41, 716, 717, 719, 42, 720, 721, 722, 727, 728, 729, 730, 731, 732, 723, 725, 43, 726, 733, 735, 44, 736, 737] rfl
set_option maxRecDepth 100000 in
theorem lr_wsL_law_r27 : ∀ w ∈ wsL_law_r27, w ∈ lw_tbl := mem_pl [738, 739, 740, 741, 742, 1166, 1167, 1168, 1169, 1185, 1170, 1172, 74, 1173, 1174, 1176, 75, 1177, 1178, 1180, 76, 1181, 1182, 1183] rfl
set_option maxRecDepth 100000 in
theorem lr_wsL_law_r28 : ∀ w ∈ wsL_law_r28, w ∈ lw_tbl := mem_pl [1184, 1189, 1186, 1187, 1188, 1190, 1192, 77, 1193, 1194, 1196, 78, 1197, 1198, 1200, 79, 1201, 743, 744, 745, 746, 1202, 1203, 1204] rfl
set_option maxRecDepth 100000 in
theorem lr_wsL_law_r29 : ∀ w ∈ wsL_law_r29, w ∈ lw_tbl := mem_pl [1205, 747, 748, 749, 750, 1206, 1207, 1208, 1209, 751, 752, 753, 754, 755, 757, 45, 758, 761, 46, 762, 766, 47, 767, 768] rfl
set_option maxRecDepth 100000 in
theorem lr_wsL_law_r30 : ∀ w ∈ wsL_law_r30, w ∈ lw_tbl := mem_pl [769, 770, 1210, 1211, 1212, 1213, 922, 1214, 1216, 80, 1217, 771, 772, 773, 774, 1218, 1219, 1220, 1221, 1222, 1224, 81, 1225, 775] rfl
set_option maxRecDepth 100000 in
theorem lr_wsL_law_r31 : ∀ w ∈ wsL_law_r31, w ∈ lw_tbl := mem_pl [776, 777, 778, 781, 48, 782, 785, 49, 786, 1226, 1227, 1228, 1229, 787, 788, 789, 790, 1230, 1231, 1232, 1233, 791, 792, 793] rfl
set_option maxRecDepth 100000 in
theorem lr_wsL_law_r32 : ∀ w ∈ wsL_law_r32, w ∈ lw_tbl := mem_pl [794, 795, 797, 50, 798, 801, 51, 802, 803, 805, 52, 806, 1234, 1235, 1236, 1237, 1238, 1240, 82, 1241, 807, 808, 809, 810] rfl
set_option maxRecDepth 100000 in
theorem lr_wsL_law_r33 : ∀ w ∈ wsL_law_r33, w ∈ lw_tbl := mem_pl [811, 813, 53, 814, 817, 54, 818, 1242, 1243, 1244, 1245, 1246, 1248, 83, 1249, 819, 820, 821, 822, 1250, 1251, 1252, 1253, 823] rfl
set_option maxRecDepth 100000 in
theorem lr_wsL_law_r34 : ∀ w ∈ wsL_law_r34, w ∈ lw_tbl := mem_pl [824, 825, 826, 302, 1254, 1255, 1256, 1257, 928, 827, 828, 829, 830, 831, 833, 55, 834, 1258, 1259, 1260, 1261, 1262, 1264, 84] rfl
set_option maxRecDepth 100000 in
theorem lr_wsL_law_r35 : ∀ w ∈ wsL_law_r35, w ∈ lw_tbl := mem_pl [1265, 835, 836, 837, 838, 1266, 1267, 1268, 1269, 839, 840, 841, 842, 845, 56, 846, 847, 848, 1270, 1271, 1272, 1273, 1274, 1275] rfl
set_option maxRecDepth 100000 in
theorem lr_wsL_law_r36 : ∀ w ∈ wsL_law_r36, w ∈ lw_tbl := mem_pl [849, 850, 851, 852, 853, 854, 860, 861, 862, 863, 855, 857, 57, 858, 859, 864, 865, 866, 1276, 1277, 1278, 1279, 1280, 1281] rfl
set_option maxRecDepth 100000 in
theorem lr_wsL_law_r37 : ∀ w ∈ wsL_law_r37, w ∈ lw_tbl := mem_pl [1286, 1282, 1284, 85, 1285, 867, 868, 869, 870, 1287, 1288, 1289, 1290, 871, 872, 873, 874, 1291, 1292, 1293, 1294] rfl
set_option maxRecDepth 100000 in
theorem lr_wsX80 : ∀ w ∈ wsX80, w ∈ lw_tbl := mem_pl [305, 307, 309, 311, 313, 315, 317, 319, 321, 323, 325, 327, 329, 331, 333, 335, 337] rfl
set_option maxRecDepth 100000 in
theorem lr_wsX90 : ∀ w ∈ wsX90, w ∈ lw_tbl := mem_pl [932, 934, 936, 938, 940, 942, 944, 946, 948, 950, 952, 954, 956, 958, 960, 962, 964, 966, 968, 970, 972, 974, 976, 978, 980, 982, 984, 986, 988, 990, 992, 994, 996, 998, 1000, 1002, 1004, 1006, 1008, 1010, 1012, 1014, 1016, 1018, 1020, 1022, 1024, 1026, 1028, 1030, 1032] rfl
set_option maxRecDepth 100000 in
theorem lr_wsX30 : ∀ w ∈ wsX30, w ∈ lw_tbl := mem_pl [131, 133, 135, 137, 139, 141, 143] rfl
set_option maxRecDepth 100000 in
theorem lr_wsX00 : ∀ w ∈ wsX00, w ∈ lw_tbl := mem_pl [160, 162, 164] rfl
set_option maxRecDepth 100000 in
theorem lr_wsX50 : ∀ w ∈ wsX50, w ∈ lw_tbl := mem_pl [178, 180] rfl
set_option maxRecDepth 100000 in
theorem lr_wsX20 : ∀ w ∈ wsX20, w ∈ lw_tbl := mem_pl [203, 205, 207, 209, 211, 213, 215, 217, 219] rfl
set_option maxRecDepth 100000 in
theorem lr_wsX70 : ∀ w ∈ wsX70, w ∈ lw_tbl := mem_pl [240, 242, 244, 246, 248, 250, 252, 254, 256, 258] rfl
set_option maxRecDepth 100000 in
theorem lr_wsX10 : ∀ w ∈ wsX10, w ∈ lw_tbl := mem_pl [277, 279, 281, 283, 285] rfl
set_option maxRecDepth 100000 in
theorem lr_wsX60 : ∀ w ∈ wsX60, w ∈ lw_tbl := mem_pl [659, 661, 663, 665, 667, 669, 671, 673] rfl
set_option maxRecDepth 100000 in
theorem lr_wsX40 : ∀ w ∈ wsX40, w ∈ lw_tbl := mem_pl [527, 529, 531, 533] rfl
theorem wsL_law_in : ∀ w ∈ wsL_law, w ∈ lw_tbl := List.forall_mem_append.mpr ⟨List.forall_mem_append.mpr ⟨List.forall_mem_append.mpr ⟨List.forall_mem_append.mpr ⟨List.forall_mem_append.mpr ⟨List.forall_mem_append.mpr ⟨List.forall_mem_append.mpr ⟨List.forall_mem_append.mpr ⟨List.forall_mem_append.mpr ⟨List.forall_mem_append.mpr ⟨List.forall_mem_append.mpr ⟨List.forall_mem_append.mpr ⟨lr_wsL_law_r1, List.forall_mem_append.mpr ⟨lr_wsL_law_r2, List.forall_mem_append.mpr ⟨lr_wsL_law_r3, List.forall_mem_append.mpr ⟨lr_wsL_law_r4, List.forall_mem_append.mpr ⟨lr_wsL_law_r5, List.forall_mem_append.mpr ⟨lr_wsL_law_r6, List.forall_mem_append.mpr ⟨lr_wsL_law_r7, List.forall_mem_append.mpr ⟨lr_wsL_law_r8, List.forall_mem_append.mpr ⟨lr_wsL_law_r9, List.forall_mem_append.mpr ⟨lr_wsL_law_r10, List.forall_mem_append.mpr ⟨lr_wsL_law_r11, List.forall_mem_append.mpr ⟨lr_wsL_law_r12, List.forall_mem_append.mpr ⟨lr_wsL_law_r13, List.forall_mem_append.mpr ⟨lr_wsL_law_r14, List.forall_mem_append.mpr ⟨lr_wsL_law_r15, List.forall_mem_append.mpr ⟨lr_wsL_law_r16, List.forall_mem_append.mpr ⟨lr_wsL_law_r17, List.forall_mem_append.mpr ⟨lr_wsL_law_r18, List.forall_mem_append.mpr ⟨lr_wsL_law_r19, List.forall_mem_append.mpr ⟨lr_wsL_law_r20, List.forall_mem_append.mpr ⟨lr_wsL_law_r21, List.forall_mem_append.mpr ⟨lr_wsL_law_r22, List.forall_mem_append.mpr ⟨lr_wsL_law_r23, List.forall_mem_append.mpr ⟨lr_wsL_law_r24, List.forall_mem_append.mpr ⟨lr_wsL_law_r25, List.forall_mem_append.mpr ⟨lr_wsL_law_r26, List.forall_mem_append.mpr ⟨lr_wsL_law_r27, List.forall_mem_append.mpr ⟨lr_wsL_law_r28, List.forall_mem_append.mpr ⟨lr_wsL_law_r29, List.forall_mem_append.mpr ⟨lr_wsL_law_r30, List.forall_mem_append.mpr ⟨lr_wsL_law_r31, List.forall_mem_append.mpr ⟨lr_wsL_law_r32, List.forall_mem_append.mpr ⟨lr_wsL_law_r33, List.forall_mem_append.mpr ⟨lr_wsL_law_r34, List.forall_mem_append.mpr ⟨lr_wsL_law_r35, List.forall_mem_append.mpr ⟨lr_wsL_law_r36, lr_wsL_law_r37⟩⟩⟩⟩⟩⟩⟩⟩⟩⟩⟩⟩⟩⟩⟩⟩⟩⟩⟩⟩⟩⟩⟩⟩⟩⟩⟩⟩⟩⟩⟩⟩⟩⟩⟩⟩, lr_wsX80⟩, lr_wsX90⟩, lr_wsX30⟩, lr_wsX00⟩, lr_wsX50⟩, lr_wsX20⟩, lr_wsX70⟩, lr_wsX10⟩, lr_wsX60⟩, lr_wsX40⟩, (fun _ h => absurd h List.not_mem_nil)⟩
theorem inlX0 : ∀ w ∈ wsX00, w ∈ wsL_law := fun _ h => List.mem_append_left _ (List.mem_append_left _ (List.mem_append_left _ (List.mem_append_left _ (List.mem_append_left _ (List.mem_append_left _ (List.mem_append_left _ (List.mem_append_right _ h)))))))
theorem inX0 : ∀ w ∈ wsX00, w ∈ lw_tbl := fun w h => wsL_law_in w (inlX0 w h)
theorem inlX1 : ∀ w ∈ wsX10, w ∈ wsL_law := fun _ h => List.mem_append_left _ (List.mem_append_left _ (List.mem_append_left _ (List.mem_append_right _ h)))
theorem inX1 : ∀ w ∈ wsX10, w ∈ lw_tbl := fun w h => wsL_law_in w (inlX1 w h)
theorem inlX2 : ∀ w ∈ wsX20, w ∈ wsL_law := fun _ h => List.mem_append_left _ (List.mem_append_left _ (List.mem_append_left _ (List.mem_append_left _ (List.mem_append_left _ (List.mem_append_right _ h)))))
theorem inX2 : ∀ w ∈ wsX20, w ∈ lw_tbl := fun w h => wsL_law_in w (inlX2 w h)
theorem inlX3 : ∀ w ∈ wsX30, w ∈ wsL_law := fun _ h => List.mem_append_left _ (List.mem_append_left _ (List.mem_append_left _ (List.mem_append_left _ (List.mem_append_left _ (List.mem_append_left _ (List.mem_append_left _ (List.mem_append_left _ (List.mem_append_right _ h))))))))
theorem inX3 : ∀ w ∈ wsX30, w ∈ lw_tbl := fun w h => wsL_law_in w (inlX3 w h)
theorem inlX4 : ∀ w ∈ wsX40, w ∈ wsL_law := fun _ h => List.mem_append_left _ (List.mem_append_right _ h)
theorem inX4 : ∀ w ∈ wsX40, w ∈ lw_tbl := fun w h => wsL_law_in w (inlX4 w h)
theorem inlX5 : ∀ w ∈ wsX50, w ∈ wsL_law := fun _ h => List.mem_append_left _ (List.mem_append_left _ (List.mem_append_left _ (List.mem_append_left _ (List.mem_append_left _ (List.mem_append_left _ (List.mem_append_right _ h))))))
theorem inX5 : ∀ w ∈ wsX50, w ∈ lw_tbl := fun w h => wsL_law_in w (inlX5 w h)
theorem inlX6 : ∀ w ∈ wsX60, w ∈ wsL_law := fun _ h => List.mem_append_left _ (List.mem_append_left _ (List.mem_append_right _ h))
theorem inX6 : ∀ w ∈ wsX60, w ∈ lw_tbl := fun w h => wsL_law_in w (inlX6 w h)
theorem inlX7 : ∀ w ∈ wsX70, w ∈ wsL_law := fun _ h => List.mem_append_left _ (List.mem_append_left _ (List.mem_append_left _ (List.mem_append_left _ (List.mem_append_right _ h))))
theorem inX7 : ∀ w ∈ wsX70, w ∈ lw_tbl := fun w h => wsL_law_in w (inlX7 w h)
theorem inlX8 : ∀ w ∈ wsX80, w ∈ wsL_law := fun _ h => List.mem_append_left _ (List.mem_append_left _ (List.mem_append_left _ (List.mem_append_left _ (List.mem_append_left _ (List.mem_append_left _ (List.mem_append_left _ (List.mem_append_left _ (List.mem_append_left _ (List.mem_append_left _ (List.mem_append_right _ h))))))))))
theorem inX8 : ∀ w ∈ wsX80, w ∈ lw_tbl := fun w h => wsL_law_in w (inlX8 w h)
theorem inlX9 : ∀ w ∈ wsX90, w ∈ wsL_law := fun _ h => List.mem_append_left _ (List.mem_append_left _ (List.mem_append_left _ (List.mem_append_left _ (List.mem_append_left _ (List.mem_append_left _ (List.mem_append_left _ (List.mem_append_left _ (List.mem_append_left _ (List.mem_append_right _ h)))))))))
theorem inX9 : ∀ w ∈ wsX90, w ∈ lw_tbl := fun w h => wsL_law_in w (inlX9 w h)
def lw_ck : List (List Cond) := [wsL_law_r1, wsL_law_r2, wsL_law_r3, wsL_law_r4, wsL_law_r5, wsL_law_r6, wsL_law_r7, wsL_law_r8, wsL_law_r9, wsL_law_r10, wsL_law_r11, wsL_law_r12, wsL_law_r13, wsL_law_r14, wsL_law_r15, wsL_law_r16, wsL_law_r17, wsL_law_r18, wsL_law_r19, wsL_law_r20, wsL_law_r21, wsL_law_r22, wsL_law_r23, wsL_law_r24, wsL_law_r25, wsL_law_r26, wsL_law_r27, wsL_law_r28, wsL_law_r29, wsL_law_r30, wsL_law_r31, wsL_law_r32, wsL_law_r33, wsL_law_r34, wsL_law_r35, wsL_law_r36, wsL_law_r37, wsX80, wsX90, wsX30, wsX00, wsX50, wsX20, wsX70, wsX10, wsX60, wsX40]
theorem lw_ckfl : wsL_law = lw_ck.flatten := by
  simp only [wsL_law, lw_ck, List.flatten_cons, List.flatten_nil, List.append_assoc, List.append_nil, List.nil_append]
theorem lw_ckin : ∀ c ∈ lw_ck, ∀ w ∈ c, w ∈ wsL_law := by
  intro c hc w hw
  rw [lw_ckfl]
  exact List.mem_flatten.mpr ⟨c, hc, hw⟩
theorem goodIn_2 {big : List Cond} (cs : List (List Cond)) (hc : ∀ c ∈ cs, ∀ w ∈ c, w ∈ big) (ws : List Cond) (ps : List (Nat × Nat)) (hp : ws = ps.filterMap (fun q => (cs.getD q.1 [])[q.2]?)) (h : ws.all goodWord = true) : GoodIn big ws := by
  intro w hw
  have h1 := List.all_eq_true.mp h w hw
  rw [hp] at hw
  obtain ⟨q, -, hi⟩ := List.mem_filterMap.mp hw
  have hm : w ∈ cs.getD q.1 [] := List.mem_of_getElem? hi
  have hl : q.1 < cs.length := by
    rcases Nat.lt_or_ge q.1 cs.length with g | g
    · exact g
    · rw [List.getD_eq_getElem?_getD, List.getElem?_eq_none g] at hm
      exact absurd hm List.not_mem_nil
  have he : cs.getD q.1 [] ∈ cs := by
    rw [List.getD_eq_getElem?_getD, List.getElem?_eq_getElem hl]
    exact List.getElem_mem hl
  exact ⟨hc _ he w hm, good_of_word h1⟩
