set_option maxRecDepth 20000 in
theorem lwi_1 : wsL_law_r1 = [95, 96, 84, 828, 829, 92, 97, 98, 99, 100, 101, 102, 103, 104, 85, 281, 148, 149, 86, 282, 185, 186, 88, 283].filterMap (fun i => lw_tbl[i]?) := by decide +kernel
set_option maxRecDepth 20000 in
theorem lwi_2 : wsL_law_r2 = [201, 202, 89, 284, 239, 240, 90, 285, 259, 260, 91, 286, 105, 106, 107, 108, 147, 109, 110, 111, 112, 113, 114, 115].filterMap (fun i => lw_tbl[i]?) := by decide +kernel
set_option maxRecDepth 20000 in
theorem lwi_3 : wsL_law_r3 = [123, 150, 151, 152, 153, 154, 172, 156, 87, 173, 174, 157, 158, 159, 160, 161, 162, 187, 188, 189, 190, 191, 192, 193].filterMap (fun i => lw_tbl[i]?) := by decide +kernel
set_option maxRecDepth 20000 in
theorem lwi_4 : wsL_law_r4 = [203, 204, 205, 206, 207, 208, 209, 241, 242, 243, 244, 245, 248, 247, 261, 262, 263, 264, 265, 830, 831, 832, 833, 834].filterMap (fun i => lw_tbl[i]?) := by decide +kernel
set_option maxRecDepth 20000 in
theorem lwi_5 : wsL_law_r5 = [835, 836, 838, 839, 840, 842, 843, 845, 846, 847, 300, 301, 302, 303, 304, 305, 306, 307, 308, 310, 0, 311, 249, 312].filterMap (fun i => lw_tbl[i]?) := by decide +kernel
set_option maxRecDepth 20000 in
theorem lwi_6 : wsL_law_r6 = [313, 93, 314, 315, 316, 317, 318, 319, 321, 320, 94, 117, 119, 322, 323, 324, 325, 116, 327, 328, 329, 330, 331, 332].filterMap (fun i => lw_tbl[i]?) := by decide +kernel
set_option maxRecDepth 20000 in
theorem lwi_7 : wsL_law_r7 = [333, 334, 335, 336, 337, 338, 339, 340, 341, 342, 343, 344, 345, 347, 1, 348, 349, 350, 351, 352, 250, 353, 354, 355].filterMap (fun i => lw_tbl[i]?) := by decide +kernel
set_option maxRecDepth 20000 in
theorem lwi_8 : wsL_law_r8 = [356, 266, 268, 270, 896, 897, 898, 899, 900, 902, 30, 903, 904, 906, 31, 907, 908, 910, 32, 911, 912, 914, 33, 915].filterMap (fun i => lw_tbl[i]?) := by decide +kernel
set_option maxRecDepth 20000 in
theorem lwi_9 : wsL_law_r9 = [916, 917, 918, 919, 920, 921, 922, 923, 924, 925, 927, 34, 928, 929, 931, 35, 932, 933, 935, 36, 936, 937, 939, 37].filterMap (fun i => lw_tbl[i]?) := by decide +kernel
set_option maxRecDepth 20000 in
theorem lwi_10 : wsL_law_r10 = [940, 941, 943, 38, 944, 945, 947, 39, 948, 949, 951, 40, 952, 953, 955, 41, 956, 957, 958, 959, 960, 962, 42, 963].filterMap (fun i => lw_tbl[i]?) := by decide +kernel
set_option maxRecDepth 20000 in
theorem lwi_11 : wsL_law_r11 = [964, 965, 967, 43, 968, 969, 971, 44, 972, 973, 974, 976, 45, 977, 978, 980, 46, 981, 982, 984, 47, 985, 986, 988].filterMap (fun i => lw_tbl[i]?) := by decide +kernel
set_option maxRecDepth 20000 in
theorem lwi_12 : wsL_law_r12 = [48, 989, 990, 992, 49, 993, 994, 995, 996, 997, 999, 50, 1000, 1001, 1003, 51, 1004, 1005, 1007, 52, 1008, 1009, 1011, 53].filterMap (fun i => lw_tbl[i]?) := by decide +kernel
set_option maxRecDepth 20000 in
theorem lwi_13 : wsL_law_r13 = [1012, 844, 1013, 1015, 54, 1016, 1017, 1019, 55, 1020, 1021, 1023, 56, 1024, 1025, 1027, 57, 1028, 1029, 1031, 58, 1032, 1033, 1035].filterMap (fun i => lw_tbl[i]?) := by decide +kernel
set_option maxRecDepth 20000 in
theorem lwi_14 : wsL_law_r14 = [59, 1036, 837, 1037, 1039, 60, 1040, 357, 358, 359, 360, 361, 362, 363, 364, 365, 367, 2, 368, 369, 371, 3, 372, 373].filterMap (fun i => lw_tbl[i]?) := by decide +kernel
set_option maxRecDepth 20000 in
theorem lwi_15 : wsL_law_r15 = [374, 375, 376, 377, 378, 379, 380, 381, 382, 383, 384, 385, 386, 387, 388, 389, 390, 391, 392, 393, 394, 395, 396, 1041].filterMap (fun i => lw_tbl[i]?) := by decide +kernel
set_option maxRecDepth 20000 in
theorem lwi_16 : wsL_law_r16 = [1042, 1043, 1044, 397, 398, 399, 400, 401, 402, 403, 404, 405, 406, 407, 408, 409, 1045, 1046, 1047, 1048, 410, 411, 412, 413].filterMap (fun i => lw_tbl[i]?) := by decide +kernel
set_option maxRecDepth 20000 in
theorem lwi_17 : wsL_law_r17 = [414, 415, 416, 417, 418, 1049, 1050, 1051, 1052, 419, 420, 421, 422, 423, 424, 425, 426, 427, 429, 4, 430, 431, 432, 434].filterMap (fun i => lw_tbl[i]?) := by decide +kernel
set_option maxRecDepth 20000 in
theorem lwi_18 : wsL_law_r18 = [5, 435, 436, 437, 438, 439, 1053, 1054, 1055, 1056, 440, 441, 442, 443, 444, 445, 446, 447, 448, 450, 6, 451, 452, 454].filterMap (fun i => lw_tbl[i]?) := by decide +kernel
set_option maxRecDepth 20000 in
theorem lwi_19 : wsL_law_r19 = [7, 455, 456, 458, 8, 459, 460, 461, 462, 463, 464, 466, 467, 468, 470, 9, 471, 473, 474, 1057, 1058, 1059, 1060, 475].filterMap (fun i => lw_tbl[i]?) := by decide +kernel
set_option maxRecDepth 20000 in
theorem lwi_20 : wsL_law_r20 = [476, 477, 478, 479, 480, 481, 482, 483, 485, 10, 486, 488, 489, 491, 492, 1061, 1062, 1063, 1064, 493, 494, 495, 496, 497].filterMap (fun i => lw_tbl[i]?) := by decide +kernel
set_option maxRecDepth 20000 in
theorem lwi_21 : wsL_law_r21 = [498, 499, 500, 501, 502, 503, 1065, 1066, 1067, 1068, 1069, 1071, 61, 1072, 504, 505, 506, 507, 508, 509, 510, 511, 512, 514].filterMap (fun i => lw_tbl[i]?) := by decide +kernel
set_option maxRecDepth 20000 in
theorem lwi_22 : wsL_law_r22 = [11, 515, 516, 518, 12, 519, 1073, 1074, 1075, 1076, 520, 521, 522, 523, 524, 525, 526, 527, 122, 528, 529, 530, 531, 175].filterMap (fun i => lw_tbl[i]?) := by decide +kernel
set_option maxRecDepth 20000 in
theorem lwi_23 : wsL_law_r23 = [532, 534, 13, 535, 536, 538, 14, 539, 540, 541, 544, 545, 546, 547, 548, 549, 550, 551, 552, 120, 553, 554, 555, 556].filterMap (fun i => lw_tbl[i]?) := by decide +kernel
set_option maxRecDepth 20000 in
theorem lwi_24 : wsL_law_r24 = [557, 558, 559, 560, 163, 561, 562, 563, 564, 565, 567, 15, 568, 571, 572, 573, 574, 575, 576, 577, 578, 579, 580, 581].filterMap (fun i => lw_tbl[i]?) := by decide +kernel
set_option maxRecDepth 20000 in
theorem lwi_25 : wsL_law_r25 = [582, 583, 584, 585, 586, 587, 588, 589, 590, 1077, 1078, 1079, 1080, 591, 592, 593, 594, 595, 596, 597, 598, 1081, 1082, 1083].filterMap (fun i => lw_tbl[i]?) := by decide +kernel
set_option maxRecDepth 20000 in
theorem lwi_26 : wsL_law_r26 = [1084, 1085, 1087, 62, 1088, 599, 600, 601, 602, 603, 604, 605, 606, 124, 1089, 1090, 1091, 1092, 607, 608, 609, 610, 611, 612].filterMap (fun i => lw_tbl[i]?) := by decide +kernel
set_option maxRecDepth 20000 in
theorem lwi_27 : wsL_law_r27 = [613, 614, 1093, 1094, 1095, 1096, 1097, 1099, 63, 1100, 616, 617, 618, 619, 620, 621, 622, 623, 624, 625, 626, 627, 628, 629].filterMap (fun i => lw_tbl[i]?) := by decide +kernel
set_option maxRecDepth 20000 in
theorem lwi_28 : wsL_law_r28 = [630, 632, 16, 633, 634, 635, 636, 638, 17, 639, 1101, 1102, 1103, 1104, 1105, 1107, 64, 1108, 1109, 1111, 65, 1112, 1113, 1115].filterMap (fun i => lw_tbl[i]?) := by decide +kernel
set_option maxRecDepth 20000 in
theorem lwi_29 : wsL_law_r29 = [66, 1116, 1117, 1119, 67, 1120, 641, 642, 643, 644, 645, 646, 1121, 1122, 1123, 1124, 647, 648, 649, 650, 651, 652, 653, 654].filterMap (fun i => lw_tbl[i]?) := by decide +kernel
set_option maxRecDepth 20000 in
theorem lwi_30 : wsL_law_r30 = [655, 656, 657, 658, 659, 660, 661, 662, 663, 664, 665, 666, 667, 1125, 1126, 1127, 1128, 1129, 1131, 68, 1132, 1133, 1135, 69].filterMap (fun i => lw_tbl[i]?) := by decide +kernel
set_option maxRecDepth 20000 in
theorem lwi_31 : wsL_law_r31 = [1136, 669, 670, 671, 672, 673, 674, 675, 676, 677, 678, 1137, 1138, 1139, 1140, 679, 680, 681, 682, 121, 683, 684, 685, 1141].filterMap (fun i => lw_tbl[i]?) := by decide +kernel
set_option maxRecDepth 20000 in
theorem lwi_32 : wsL_law_r32 = [1142, 1143, 1144, 686, 687, 688, 689, 690, 692, 18, 693, 118, 125, 267, 269, 271, 211, 251, 694, 695, 696, 697, 698, 699].filterMap (fun i => lw_tbl[i]?) := by decide +kernel
set_option maxRecDepth 20000 in
theorem lwi_33 : wsL_law_r33 = [700, 701, 702, 1145, 1146, 1147, 1148, 1149, 1151, 70, 1152, 841, 1153, 1155, 71, 1156, 703, 704, 705, 706, 707, 708, 709, 710].filterMap (fun i => lw_tbl[i]?) := by decide +kernel
set_option maxRecDepth 20000 in
theorem lwi_34 : wsL_law_r34 = [1157, 1158, 1159, 1160, 711, 712, 713, 714, 715, 716, 717, 718, 210, 1161, 1162, 1163, 1164, 719, 720, 721, 722, 723, 724, 725].filterMap (fun i => lw_tbl[i]?) := by decide +kernel
set_option maxRecDepth 20000 in
theorem lwi_35 : wsL_law_r35 = [726, 1165, 1166, 1167, 1168, 727, 728, 729, 730, 731, 732, 733, 734, 212, 213, 735, 737, 19, 738, 216, 215, 739, 741, 20].filterMap (fun i => lw_tbl[i]?) := by decide +kernel
set_option maxRecDepth 20000 in
theorem lwi_36 : wsL_law_r36 = [742, 214, 743, 744, 745, 746, 748, 21, 749, 217, 750, 752, 22, 753, 754, 756, 23, 757, 758, 760, 24, 761, 762, 764].filterMap (fun i => lw_tbl[i]?) := by decide +kernel
set_option maxRecDepth 20000 in
theorem lwi_37 : wsL_law_r37 = [25, 765, 766, 767, 768, 769, 770, 772, 26, 773, 774, 776, 27, 777, 778, 779, 780, 781, 782, 783, 784, 785, 786, 787].filterMap (fun i => lw_tbl[i]?) := by decide +kernel
set_option maxRecDepth 20000 in
theorem lwi_38 : wsL_law_r38 = [788, 789, 790, 791, 792, 793, 794, 795, 796, 797, 798, 799, 800, 801, 802, 1169, 1170, 1171, 1172, 850, 1173, 1175, 72, 1176].filterMap (fun i => lw_tbl[i]?) := by decide +kernel
set_option maxRecDepth 20000 in
theorem lwi_39 : wsL_law_r39 = [849, 848, 1177, 1179, 73, 1180, 1181, 1183, 74, 1184, 1185, 1187, 75, 1188, 1189, 1190, 1191, 1192, 1194, 76, 1195, 1196, 1198, 77].filterMap (fun i => lw_tbl[i]?) := by decide +kernel
set_option maxRecDepth 20000 in
theorem lwi_40 : wsL_law_r40 = [1199, 1200, 1202, 78, 1203, 851, 1204, 1206, 79, 1207, 1208, 1210, 80, 1211, 1212, 1213, 1214, 803, 804, 805, 806, 807, 808, 809].filterMap (fun i => lw_tbl[i]?) := by decide +kernel
set_option maxRecDepth 20000 in
theorem lwi_41 : wsL_law_r41 = [810, 892, 893, 894, 895, 811, 812, 813, 814, 815, 816, 817, 818, 819, 820, 822, 28, 823, 824, 826, 29, 827, 164, 1215].filterMap (fun i => lw_tbl[i]?) := by decide +kernel
set_option maxRecDepth 20000 in
theorem lwi_42 : wsL_law_r42 = [1216, 1217, 1218, 1219, 852, 1220, 1222, 81, 1223, 1224, 1225, 1227, 82, 1228].filterMap (fun i => lw_tbl[i]?) := by decide +kernel
set_option maxRecDepth 20000 in
theorem lwf_0 : wsX00 = [176, 178, 180, 182].filterMap (fun i => lw_tbl[i]?) := by decide +kernel
set_option maxRecDepth 20000 in
theorem lwf_1 : wsX10 = [165, 167, 169].filterMap (fun i => lw_tbl[i]?) := by decide +kernel
set_option maxRecDepth 20000 in
theorem lwf_2 : wsX20 = [194, 196, 198].filterMap (fun i => lw_tbl[i]?) := by decide +kernel
set_option maxRecDepth 20000 in
theorem lwf_3 : wsX30 = [252, 254, 256].filterMap (fun i => lw_tbl[i]?) := by decide +kernel
set_option maxRecDepth 20000 in
theorem lwf_4 : wsX40 = [218, 220, 222, 224, 226, 228, 230, 232, 234, 236].filterMap (fun i => lw_tbl[i]?) := by decide +kernel
set_option maxRecDepth 20000 in
theorem lwf_5 : wsX50 = [126, 128, 130, 132, 134, 136, 138, 140, 142, 144].filterMap (fun i => lw_tbl[i]?) := by decide +kernel
set_option maxRecDepth 20000 in
theorem lwf_6 : wsX60 = [272, 274, 276, 278].filterMap (fun i => lw_tbl[i]?) := by decide +kernel
set_option maxRecDepth 20000 in
theorem lwf_7 : wsX70 = [287, 289, 291, 293, 295, 297].filterMap (fun i => lw_tbl[i]?) := by decide +kernel
set_option maxRecDepth 20000 in
theorem lwf_8 : wsX80 = [853, 855, 857, 859, 861, 863, 865, 867, 869, 871, 873, 875, 877, 879, 881, 883, 885, 887, 889].filterMap (fun i => lw_tbl[i]?) := by decide +kernel
set_option maxRecDepth 20000 in
theorem lwi_of {ws : List Cond} {ps : List Nat} (h : ws = ps.filterMap (fun i => lw_tbl[i]?)) : ∀ w ∈ ws, w ∈ lw_tbl := by
  intro w hw
  rw [h] at hw
  obtain ⟨i, -, hi⟩ := List.mem_filterMap.mp hw
  exact List.mem_of_getElem? hi
set_option maxRecDepth 20000 in
theorem wsL_law_in : ∀ w ∈ wsL_law, w ∈ lw_tbl := List.forall_mem_append.mpr ⟨List.forall_mem_append.mpr ⟨List.forall_mem_append.mpr ⟨List.forall_mem_append.mpr ⟨List.forall_mem_append.mpr ⟨List.forall_mem_append.mpr ⟨List.forall_mem_append.mpr ⟨List.forall_mem_append.mpr ⟨List.forall_mem_append.mpr ⟨List.forall_mem_append.mpr ⟨List.forall_mem_append.mpr ⟨lwi_of lwi_1, List.forall_mem_append.mpr ⟨lwi_of lwi_2, List.forall_mem_append.mpr ⟨lwi_of lwi_3, List.forall_mem_append.mpr ⟨lwi_of lwi_4, List.forall_mem_append.mpr ⟨lwi_of lwi_5, List.forall_mem_append.mpr ⟨lwi_of lwi_6, List.forall_mem_append.mpr ⟨lwi_of lwi_7, List.forall_mem_append.mpr ⟨lwi_of lwi_8, List.forall_mem_append.mpr ⟨lwi_of lwi_9, List.forall_mem_append.mpr ⟨lwi_of lwi_10, List.forall_mem_append.mpr ⟨lwi_of lwi_11, List.forall_mem_append.mpr ⟨lwi_of lwi_12, List.forall_mem_append.mpr ⟨lwi_of lwi_13, List.forall_mem_append.mpr ⟨lwi_of lwi_14, List.forall_mem_append.mpr ⟨lwi_of lwi_15, List.forall_mem_append.mpr ⟨lwi_of lwi_16, List.forall_mem_append.mpr ⟨lwi_of lwi_17, List.forall_mem_append.mpr ⟨lwi_of lwi_18, List.forall_mem_append.mpr ⟨lwi_of lwi_19, List.forall_mem_append.mpr ⟨lwi_of lwi_20, List.forall_mem_append.mpr ⟨lwi_of lwi_21, List.forall_mem_append.mpr ⟨lwi_of lwi_22, List.forall_mem_append.mpr ⟨lwi_of lwi_23, List.forall_mem_append.mpr ⟨lwi_of lwi_24, List.forall_mem_append.mpr ⟨lwi_of lwi_25, List.forall_mem_append.mpr ⟨lwi_of lwi_26, List.forall_mem_append.mpr ⟨lwi_of lwi_27, List.forall_mem_append.mpr ⟨lwi_of lwi_28, List.forall_mem_append.mpr ⟨lwi_of lwi_29, List.forall_mem_append.mpr ⟨lwi_of lwi_30, List.forall_mem_append.mpr ⟨lwi_of lwi_31, List.forall_mem_append.mpr ⟨lwi_of lwi_32, List.forall_mem_append.mpr ⟨lwi_of lwi_33, List.forall_mem_append.mpr ⟨lwi_of lwi_34, List.forall_mem_append.mpr ⟨lwi_of lwi_35, List.forall_mem_append.mpr ⟨lwi_of lwi_36, List.forall_mem_append.mpr ⟨lwi_of lwi_37, List.forall_mem_append.mpr ⟨lwi_of lwi_38, List.forall_mem_append.mpr ⟨lwi_of lwi_39, List.forall_mem_append.mpr ⟨lwi_of lwi_40, List.forall_mem_append.mpr ⟨lwi_of lwi_41, lwi_of lwi_42⟩⟩⟩⟩⟩⟩⟩⟩⟩⟩⟩⟩⟩⟩⟩⟩⟩⟩⟩⟩⟩⟩⟩⟩⟩⟩⟩⟩⟩⟩⟩⟩⟩⟩⟩⟩⟩⟩⟩⟩⟩, lwi_of lwf_7⟩, lwi_of lwf_8⟩, lwi_of lwf_5⟩, lwi_of lwf_0⟩, lwi_of lwf_2⟩, lwi_of lwf_4⟩, lwi_of lwf_3⟩, lwi_of lwf_6⟩, lwi_of lwf_1⟩, fun _ h => absurd h List.not_mem_nil⟩
theorem inlX0 : ∀ w ∈ wsX00, w ∈ wsL_law := fun _ h => List.mem_append_left _ (List.mem_append_left _ (List.mem_append_left _ (List.mem_append_left _ (List.mem_append_left _ (List.mem_append_left _ (List.mem_append_right _ h))))))
theorem inX0 : ∀ w ∈ wsX00, w ∈ lw_tbl := fun w h => wsL_law_in w (inlX0 w h)
theorem inlX1 : ∀ w ∈ wsX10, w ∈ wsL_law := fun _ h => List.mem_append_left _ (List.mem_append_right _ h)
theorem inX1 : ∀ w ∈ wsX10, w ∈ lw_tbl := fun w h => wsL_law_in w (inlX1 w h)
theorem inlX2 : ∀ w ∈ wsX20, w ∈ wsL_law := fun _ h => List.mem_append_left _ (List.mem_append_left _ (List.mem_append_left _ (List.mem_append_left _ (List.mem_append_left _ (List.mem_append_right _ h)))))
theorem inX2 : ∀ w ∈ wsX20, w ∈ lw_tbl := fun w h => wsL_law_in w (inlX2 w h)
theorem inlX3 : ∀ w ∈ wsX30, w ∈ wsL_law := fun _ h => List.mem_append_left _ (List.mem_append_left _ (List.mem_append_left _ (List.mem_append_right _ h)))
theorem inX3 : ∀ w ∈ wsX30, w ∈ lw_tbl := fun w h => wsL_law_in w (inlX3 w h)
theorem inlX4 : ∀ w ∈ wsX40, w ∈ wsL_law := fun _ h => List.mem_append_left _ (List.mem_append_left _ (List.mem_append_left _ (List.mem_append_left _ (List.mem_append_right _ h))))
theorem inX4 : ∀ w ∈ wsX40, w ∈ lw_tbl := fun w h => wsL_law_in w (inlX4 w h)
theorem inlX5 : ∀ w ∈ wsX50, w ∈ wsL_law := fun _ h => List.mem_append_left _ (List.mem_append_left _ (List.mem_append_left _ (List.mem_append_left _ (List.mem_append_left _ (List.mem_append_left _ (List.mem_append_left _ (List.mem_append_right _ h)))))))
theorem inX5 : ∀ w ∈ wsX50, w ∈ lw_tbl := fun w h => wsL_law_in w (inlX5 w h)
theorem inlX6 : ∀ w ∈ wsX60, w ∈ wsL_law := fun _ h => List.mem_append_left _ (List.mem_append_left _ (List.mem_append_right _ h))
theorem inX6 : ∀ w ∈ wsX60, w ∈ lw_tbl := fun w h => wsL_law_in w (inlX6 w h)
theorem inlX7 : ∀ w ∈ wsX70, w ∈ wsL_law := fun _ h => List.mem_append_left _ (List.mem_append_left _ (List.mem_append_left _ (List.mem_append_left _ (List.mem_append_left _ (List.mem_append_left _ (List.mem_append_left _ (List.mem_append_left _ (List.mem_append_left _ (List.mem_append_right _ h)))))))))
theorem inX7 : ∀ w ∈ wsX70, w ∈ lw_tbl := fun w h => wsL_law_in w (inlX7 w h)
theorem inlX8 : ∀ w ∈ wsX80, w ∈ wsL_law := fun _ h => List.mem_append_left _ (List.mem_append_left _ (List.mem_append_left _ (List.mem_append_left _ (List.mem_append_left _ (List.mem_append_left _ (List.mem_append_left _ (List.mem_append_left _ (List.mem_append_right _ h))))))))
theorem inX8 : ∀ w ∈ wsX80, w ∈ lw_tbl := fun w h => wsL_law_in w (inlX8 w h)
theorem lw_good : wsL_law.all goodWord = true := by decide +kernel
