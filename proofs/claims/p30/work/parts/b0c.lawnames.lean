set_option maxRecDepth 20000 in
theorem wl_r27 : ∀ w ∈ wsL_law_r27, w ∈ lw_tbl := in_of [693, 694, 696, 697, 698, 699, 700, 701, 702, 703, 704, 705, 707, 709, 1090, 1091, 1092, 1093, 1094, 1096, 37, 1097, 1098, 1100] (by decide +kernel)
set_option maxRecDepth 20000 in
theorem wl_r28 : ∀ w ∈ wsL_law_r28, w ∈ lw_tbl := in_of [38, 1101, 1102, 1104, 39, 1105, 1106, 1108, 40, 1109, 1110, 1111, 1112, 1113, 1115, 41, 1116, 1117, 1119, 42, 1120, 1121, 1123, 43] (by decide +kernel)
set_option maxRecDepth 20000 in
theorem wl_r29 : ∀ w ∈ wsL_law_r29, w ∈ lw_tbl := in_of [1124, 1125, 1131, 1132, 1133, 1134, 1135, 1136, 1137, 1138, 1139, 1140, 1126, 1128, 44, 1129, 1130, 1141, 1143, 45, 1144, 1145, 1147, 46] (by decide +kernel)
set_option maxRecDepth 20000 in
theorem wl_r30 : ∀ w ∈ wsL_law_r30, w ∈ lw_tbl := in_of [1148, 1149, 1151, 47, 1152, 1153, 1155, 48, 1156, 1157, 1159, 49, 1160, 1161, 1163, 50, 1164, 1165, 1166, 1167, 1168, 1170, 51, 1171] (by decide +kernel)
set_option maxRecDepth 20000 in
theorem wl_r31 : ∀ w ∈ wsL_law_r31, w ∈ lw_tbl := in_of [1172, 1174, 52, 1175, 1176, 1178, 53, 1179, 1180, 1182, 54, 1183, 725, 726, 727, 728, 147, 149, 1184, 1185, 1186, 1187, 729, 730] (by decide +kernel)
set_option maxRecDepth 20000 in
theorem wl_r32 : ∀ w ∈ wsL_law_r32, w ∈ lw_tbl := in_of [731, 732, 711, 708, 712, 733, 735, 21, 736, 1188, 1189, 1190, 1191, 737, 738, 739, 740, 741, 743, 22, 744, 710, 749, 750] (by decide +kernel)
set_option maxRecDepth 20000 in
theorem wl_r33 : ∀ w ∈ wsL_law_r33, w ∈ lw_tbl := in_of [745, 747, 23, 748, 1192, 1193, 1194, 1195, 1196, 1198, 55, 1199, 1200, 1202, 56, 1203, 751, 752, 753, 754, 755, 757, 24, 758] (by decide +kernel)
set_option maxRecDepth 20000 in
theorem wl_r34 : ∀ w ∈ wsL_law_r34, w ∈ lw_tbl := in_of [706, 1204, 1205, 1206, 1207, 1208, 1210, 57, 1211, 1212, 1214, 58, 1215, 759, 760, 761, 762, 763, 99, 101, 1216, 1217, 1218, 1219] (by decide +kernel)
set_option maxRecDepth 20000 in
theorem wl_r35 : ∀ w ∈ wsL_law_r35, w ∈ lw_tbl := in_of [1220, 764, 765, 766, 767, 768, 1221, 1222, 1223, 1224, 769, 770, 771, 772, 773, 775, 25, 776, 777, 778, 77, 779, 780, 781] (by decide +kernel)
set_option maxRecDepth 20000 in
theorem wl_r36 : ∀ w ∈ wsL_law_r36, w ∈ lw_tbl := in_of [782, 783, 784, 785, 786, 787, 788, 789, 200, 202, 203, 204, 205, 790, 791, 792, 793, 794, 795, 796, 797, 798, 201, 799] (by decide +kernel)
set_option maxRecDepth 100000 in
theorem wl_r37 : ∀ w ∈ wsL_law_r37, w ∈ lw_tbl := List.forall_mem_cons.mpr ⟨List.mem_of_getElem? (i := 800) rfl, List.forall_mem_cons.mpr ⟨List.mem_of_getElem? (i := 802) rfl, List.forall_mem_cons.mpr ⟨List.mem_of_getElem? (i := 26) rfl, List.forall_mem_cons.mpr ⟨List.mem_of_getElem? (i := 803) rfl, List.forall_mem_cons.mpr ⟨List.mem_of_getElem? (i := 804) rfl, List.forall_mem_cons.mpr ⟨List.mem_of_getElem? (i := 805) rfl, List.forall_mem_cons.mpr ⟨List.mem_of_getElem? (i := 807) rfl, List.forall_mem_cons.mpr ⟨List.mem_of_getElem? (i := 27) rfl, List.forall_mem_cons.mpr ⟨List.mem_of_getElem? (i := 808) rfl, List.forall_mem_cons.mpr ⟨List.mem_of_getElem? (i := 809) rfl, List.forall_mem_cons.mpr ⟨List.mem_of_getElem? (i := 811) rfl, List.forall_mem_cons.mpr ⟨List.mem_of_getElem? (i := 28) rfl, List.forall_mem_cons.mpr ⟨List.mem_of_getElem? (i := 812) rfl, List.forall_mem_cons.mpr ⟨List.mem_of_getElem? (i := 192) rfl, List.forall_mem_cons.mpr ⟨List.mem_of_getElem? (i := 1225) rfl, List.forall_mem_cons.mpr ⟨List.mem_of_getElem? (i := 1226) rfl, List.forall_mem_cons.mpr ⟨List.mem_of_getElem? (i := 1227) rfl, List.forall_mem_cons.mpr ⟨List.mem_of_getElem? (i := 1228) rfl, List.forall_mem_cons.mpr ⟨List.mem_of_getElem? (i := 1229) rfl, List.forall_mem_cons.mpr ⟨List.mem_of_getElem? (i := 813) rfl, List.forall_mem_cons.mpr ⟨List.mem_of_getElem? (i := 814) rfl, List.forall_mem_cons.mpr ⟨List.mem_of_getElem? (i := 815) rfl, List.forall_mem_cons.mpr ⟨List.mem_of_getElem? (i := 816) rfl, List.forall_mem_cons.mpr ⟨List.mem_of_getElem? (i := 193) rfl, (fun _ h => absurd h List.not_mem_nil)⟩⟩⟩⟩⟩⟩⟩⟩⟩⟩⟩⟩⟩⟩⟩⟩⟩⟩⟩⟩⟩⟩⟩⟩
set_option maxRecDepth 20000 in
theorem wl_r38 : ∀ w ∈ wsL_law_r38, w ∈ lw_tbl := in_of [191, 1230, 1231, 1232, 1233, 817, 818, 819, 820, 274, 1234, 1235, 1236, 1237, 821, 822, 823, 824, 1238, 1239, 1240, 1241, 825, 826] (by decide +kernel)
set_option maxRecDepth 20000 in
theorem wl_r39 : ∀ w ∈ wsL_law_r39, w ∈ lw_tbl := in_of [827, 828, 829, 831, 29, 832, 833, 834, 835, 1242, 1243, 1244, 1245, 836, 837, 838, 839, 1246, 1247, 1248, 1249] (by decide +kernel)
