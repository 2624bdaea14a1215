set_option maxRecDepth 20000 in
theorem wsL_law0_i18 : ∀ w ∈ wsL_law0_r18, w ∈ lw_tbl := fun w h => (goodIn_r (big := lw_tbl) wsL_law0_r18 [1041, 1042, 1043, 1045, 14, 1046, 1050, 1047, 1048, 1049, 1051, 1053, 15, 1054, 1056, 1057, 1058, 1059, 1061, 16, 1062, 1063, 1065, 17] (by decide +kernel) (by decide +kernel) w h).1
set_option maxRecDepth 20000 in
theorem wsL_law0_i19 : ∀ w ∈ wsL_law0_r19, w ∈ lw_tbl := fun w h => (goodIn_r (big := lw_tbl) wsL_law0_r19 [1066, 1068, 1070, 18, 1071, 901, 905, 907, 1072, 1074, 19, 1075, 1076, 1078, 20, 1079, 1080, 1082, 21, 1083, 1084, 1086, 22, 1087] (by decide +kernel) (by decide +kernel) w h).1
set_option maxRecDepth 20000 in
theorem wsL_law0_i20 : ∀ w ∈ wsL_law0_r20, w ∈ lw_tbl := fun w h => (goodIn_r (big := lw_tbl) wsL_law0_r20 [1088, 1089, 1090, 1091, 871, 801, 802, 803, 804, 497, 498, 499, 519, 399, 523, 392, 393, 394, 1092, 1093, 1094, 1095, 1096, 1098] (by decide +kernel) (by decide +kernel) w h).1
set_option maxRecDepth 20000 in
theorem wsL_law0_i21 : ∀ w ∈ wsL_law0_r21, w ∈ lw_tbl := fun w h => (goodIn_r (big := lw_tbl) wsL_law0_r21 [23, 1099, 1100, 1101, 805, 806, 807, 808, 525, 526, 527, 1102, 1103, 1104, 1105, 809, 810, 811, 812, 668, 669, 670, 1106, 1107] (by decide +kernel) (by decide +kernel) w h).1
set_option maxRecDepth 20000 in
theorem wsL_law0_i22 : ∀ w ∈ wsL_law0_r22, w ∈ lw_tbl := fun w h => (goodIn_r (big := lw_tbl) wsL_law0_r22 [1108, 1109, 1110, 1112, 24, 1113, 813, 814, 815, 816, 664, 665, 666, 1114, 1115, 1116, 1117, 1118, 1120, 25, 1121, 817, 818, 819] (by decide +kernel) (by decide +kernel) w h).1
set_option maxRecDepth 20000 in
theorem wsL_law0_i23 : ∀ w ∈ wsL_law0_r23, w ∈ lw_tbl := fun w h => (goodIn_r (big := lw_tbl) wsL_law0_r23 [820, 679, 680, 681, 1122, 1123, 1124, 1125, 821, 822, 823, 824, 683, 684, 685, 686, 1126, 1127, 1128, 1129, 1130, 825, 826, 827] (by decide +kernel) (by decide +kernel) w h).1
set_option maxRecDepth 20000 in
theorem wsL_law0_i24 : ∀ w ∈ wsL_law0_r24, w ∈ lw_tbl := fun w h => (goodIn_r (big := lw_tbl) wsL_law0_r24 [828, 688, 689, 690, 691, 388, 389, 390, 391, 1131, 1132, 1133, 1134, 1135, 1137, 26, 1138, 1139, 1140, 1141, 1142, 379, 380, 381] (by decide +kernel) (by decide +kernel) w h).1
set_option maxRecDepth 20000 in
theorem wsL_law0_i25 : ∀ w ∈ wsL_law0_r25, w ∈ lw_tbl := fun w h => (goodIn_r (big := lw_tbl) wsL_law0_r25 [382, 383, 384, 385, 386, 387, 1143, 1144, 1145, 1146, 1147, 1149, 27, 1150, 829, 830, 831, 832, 410, 411, 412, 484, 488, 489] (by decide +kernel) (by decide +kernel) w h).1
set_option maxRecDepth 20000 in
theorem wsL_law0_i26 : ∀ w ∈ wsL_law0_r26, w ∈ lw_tbl := fun w h => (goodIn_r (big := lw_tbl) wsL_law0_r26 [490, 491, 492, 493, 494, 495, 1151, 1152, 1153, 1154, 1155, 1157, 28, 1158, 1159, 1160, 1161, 1162, 1163, 395, 396, 397, 398, 1164] (by decide +kernel) (by decide +kernel) w h).1
set_option maxRecDepth 20000 in
theorem wsL_law0_i27 : ∀ w ∈ wsL_law0_r27, w ∈ lw_tbl := fun w h => (goodIn_r (big := lw_tbl) wsL_law0_r27 [1165, 1166, 1167, 833, 834, 835, 836, 694, 695, 696, 532, 533, 534, 535, 566, 568, 567, 53, 536, 537, 538, 539, 192, 540] (by decide +kernel) (by decide +kernel) w h).1
set_option maxRecDepth 20000 in
theorem wsL_law0_i28 : ∀ w ∈ wsL_law0_r28, w ∈ lw_tbl := fun w h => (goodIn_r (big := lw_tbl) wsL_law0_r28 [541, 542, 543, 544, 545, 546, 547, 208, 211, 214, 217, 548, 549, 550, 551, 234, 237, 240, 552, 553, 554, 555, 280, 283] (by decide +kernel) (by decide +kernel) w h).1
set_option maxRecDepth 20000 in
theorem wsL_law0_i29 : ∀ w ∈ wsL_law0_r29, w ∈ lw_tbl := fun w h => (goodIn_r (big := lw_tbl) wsL_law0_r29 [556, 557, 558, 559, 560, 121, 124, 127, 130, 561, 562, 563, 564, 162, 165, 565, 1168, 1169, 1170, 1171, 1172, 1173, 1174, 1175] (by decide +kernel) (by decide +kernel) w h).1
set_option maxRecDepth 20000 in
theorem wsL_law0_i30 : ∀ w ∈ wsL_law0_r30, w ∈ lw_tbl := fun w h => (goodIn_r (big := lw_tbl) wsL_law0_r30 [1176, 1181, 1177, 1178, 1179, 1180, 837, 838, 839, 840, 529, 530, 531, 1182, 1183, 1184, 1185, 1186, 1188, 29, 1189, 1190, 841, 842] (by decide +kernel) (by decide +kernel) w h).1
set_option maxRecDepth 20000 in
theorem wsL_law0_i31 : ∀ w ∈ wsL_law0_r31, w ∈ lw_tbl := fun w h => (goodIn_r (big := lw_tbl) wsL_law0_r31 [843, 844, 672, 673, 674, 1191, 1192, 1193, 1194, 1195, 1197, 30, 1198, 845, 846, 847, 848, 698, 699, 700, 701, 702, 703, 704] (by decide +kernel) (by decide +kernel) w h).1
set_option maxRecDepth 20000 in
theorem wsL_law0_i32 : ∀ w ∈ wsL_law0_r32, w ∈ lw_tbl := fun w h => (goodIn_r (big := lw_tbl) wsL_law0_r32 [1199, 1200, 1201, 1202, 1203, 1205, 31, 1206, 1207, 1209, 32, 1210, 403, 404, 405, 406, 407, 408, 409, 496, 524, 528, 663, 667] (by decide +kernel) (by decide +kernel) w h).1
set_option maxRecDepth 20000 in
theorem wsL_law0_i33 : ∀ w ∈ wsL_law0_r33, w ∈ lw_tbl := fun w h => (goodIn_r (big := lw_tbl) wsL_law0_r33 [671, 678, 682, 687, 692, 693, 697, 1211, 1212, 1213, 1214, 1215, 961, 1216, 1218, 33, 1219, 1220] (by decide +kernel) (by decide +kernel) w h).1
