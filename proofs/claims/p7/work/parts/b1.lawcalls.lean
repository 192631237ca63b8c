set_option maxRecDepth 20000 in
theorem ggL_law_X8_blend : GoodIn wsL_law wsX8_blend := goodIn_r _ [829, 34, 15, 282, 284, 173, 174, 2, 175, 830, 831, 832, 833, 834, 835, 836, 837, 838, 839, 840, 841, 842, 843, 844, 845, 846, 33, 847, 848, 69, 849, 850, 851, 852, 853, 192, 193, 194, 428, 429, 430, 431, 322, 432, 433, 434, 435, 436, 170, 13, 410, 336, 337, 39, 338, 78, 437, 438, 439, 172, 440, 186, 187, 180, 181, 188, 423, 424, 426, 427, 854, 855, 856, 857, 68, 70, 71, 72, 858, 859, 860, 861, 862, 863, 628, 350, 629, 864, 865, 866, 867, 868, 349, 351, 73, 869, 870, 871, 872, 873, 874, 875, 876, 67, 877, 933, 934, 935, 936, 937, 938, 939, 940, 941, 942, 943, 944, 945, 946, 947, 1018, 1019, 1020, 1021, 1022, 1004, 1005, 1006, 1007, 1008, 1009, 1010, 1011, 1012, 1013, 1014, 1015, 1016, 1017, 1028, 1029, 1030, 1031, 1032, 1033, 1034, 1035, 1036, 1037] (by decide +kernel) (by decide +kernel)
set_option maxRecDepth 20000 in
theorem gL_law_X8_blend : GoodIn wsL_law (wsV RL 119 RX8 yX8_blend wsX8_blend) := goodIn_app (goodIn_of _ (by decide +kernel)) ggL_law_X8_blend
set_option maxRecDepth 20000 in
theorem ggL_law_X8_count : GoodIn wsL_law wsX8_count := goodIn_r _ [928, 170, 373, 457, 160, 933, 934, 935, 936, 937, 938, 939, 940, 941, 942, 943, 944, 945, 946, 947] (by decide +kernel) (by decide +kernel)
set_option maxRecDepth 20000 in
theorem gL_law_X8_count : GoodIn wsL_law (wsV RL 140 RX8 yX8_count wsX8_count) := goodIn_app (goodIn_of _ (by decide +kernel)) ggL_law_X8_count
set_option maxRecDepth 20000 in
theorem ggL_law_X8_end : GoodIn wsL_law wsX8_end := goodIn_r _ [151, 26, 133, 134, 933, 934, 935, 936, 937, 938, 939, 940, 941, 942, 943, 944, 945, 946, 947, 994, 995, 996, 997, 998, 999, 1000, 1001, 1023, 1024, 1025, 1026, 1027] (by decide +kernel) (by decide +kernel)
set_option maxRecDepth 20000 in
theorem gL_law_X8_end : GoodIn wsL_law (wsV RL 18 RX8 yX8_end wsX8_end) := goodIn_app (goodIn_of _ (by decide +kernel)) ggL_law_X8_end
set_option maxRecDepth 20000 in
theorem ggL_law_X8_fault : GoodIn wsL_law wsX8_fault := goodIn_r _ [735, 26, 736, 737, 933, 934, 935, 936, 937, 938, 939, 940, 941, 942, 943, 944, 945, 946, 947, 994, 995, 996, 997, 998, 999, 1000, 1001] (by decide +kernel) (by decide +kernel)
set_option maxRecDepth 20000 in
theorem gL_law_X8_fault : GoodIn wsL_law (wsV RL 92 RX8 yX8_fault wsX8_fault) := goodIn_app (goodIn_of _ (by decide +kernel)) ggL_law_X8_fault
set_option maxRecDepth 20000 in
theorem ggL_law_X8_feed : GoodIn wsL_law wsX8_feed := goodIn_r _ [132, 26, 133, 134, 135, 136, 137, 50, 138, 139, 57, 933, 934, 935, 936, 937, 938, 939, 940, 941, 942, 943, 944, 945, 946, 947, 994, 995, 996, 997, 998, 999, 1000, 1001, 1023, 1024, 1025, 1026, 1027] (by decide +kernel) (by decide +kernel)
set_option maxRecDepth 20000 in
theorem gL_law_X8_feed : GoodIn wsL_law (wsV RL 13 RX8 yX8_feed wsX8_feed) := goodIn_app (goodIn_of _ (by decide +kernel)) ggL_law_X8_feed
set_option maxRecDepth 20000 in
theorem ggL_law_X8_found : GoodIn wsL_law wsX8_found := goodIn_r _ [905, 897, 37, 173, 174, 2, 175, 933, 934, 935, 936, 937, 938, 939, 940, 941, 942, 943, 944, 945, 946, 947] (by decide +kernel) (by decide +kernel)
set_option maxRecDepth 20000 in
theorem gL_law_X8_found : GoodIn wsL_law (wsV RL 131 RX8 yX8_found wsX8_found) := goodIn_app (goodIn_of _ (by decide +kernel)) ggL_law_X8_found
set_option maxRecDepth 20000 in
theorem ggL_law_X8_holds : GoodIn wsL_law wsX8_holds := goodIn_r _ [389, 282, 322, 283, 284, 390, 391, 392, 2, 393, 16, 285, 286, 287, 288, 15, 173, 174, 175, 394, 395, 396, 39, 397, 78, 1018, 1019, 1020, 1021, 1022, 933, 934, 935, 936, 937, 938, 939, 940, 941, 942, 943, 944, 945, 946, 947] (by decide +kernel) (by decide +kernel)
set_option maxRecDepth 20000 in
theorem gL_law_X8_holds : GoodIn wsL_law (wsV RL 75 RX8 yX8_holds wsX8_holds) := goodIn_app (goodIn_of _ (by decide +kernel)) ggL_law_X8_holds
set_option maxRecDepth 20000 in
theorem ggL_law_X8_init : GoodIn wsL_law wsX8_init := goodIn_r _ [8, 9, 10, 11, 12, 13, 14, 15, 16, 17, 18, 19, 20, 21, 22, 23, 24, 25, 26, 27, 28, 29, 30, 31, 32, 33, 34, 35, 36, 37, 38, 39, 40, 41, 42, 43, 44, 45, 46, 47, 48, 49, 50, 51, 52, 53, 54, 55, 56, 57, 58, 59, 60, 61, 62, 63, 64, 65, 66, 67, 68, 69, 70, 71, 72, 73, 74, 75, 76, 77, 78, 79, 80, 933, 934, 935, 936, 937, 938, 939, 940, 941, 942, 943, 944, 945, 946, 947, 992, 993, 994, 995, 996, 997, 998, 999, 1000, 1001, 1002, 1003, 1004, 1005, 1006, 1007, 1008, 1009, 1010, 1011, 1012, 1013, 1014, 1015, 1016, 1017, 1018, 1019, 1020, 1021, 1022, 1023, 1024, 1025, 1026, 1027] (by decide +kernel) (by decide +kernel)
set_option maxRecDepth 20000 in
theorem gL_law_X8_init : GoodIn wsL_law (wsX8_init) := ggL_law_X8_init
set_option maxRecDepth 20000 in
theorem ggL_law_X8_jar : GoodIn wsL_law wsX8_jar := goodIn_r _ [372, 282, 373, 16, 14, 38, 39, 160, 322, 30, 285, 286, 287, 2, 288, 15, 173, 174, 175, 74, 75, 76, 77, 10, 11, 35, 78, 79, 80, 323, 324, 325, 29, 326, 61, 327, 328, 329, 330, 331, 332, 63, 333, 334, 192, 193, 194, 335, 336, 337, 338, 339, 340, 341, 342, 343, 311, 312, 313, 309, 344, 345, 346, 347, 348, 349, 350, 351, 1018, 1019, 1020, 1021, 1022, 933, 934, 935, 936, 937, 938, 939, 940, 941, 942, 943, 944, 945, 946, 947, 1002, 1003] (by decide +kernel) (by decide +kernel)
set_option maxRecDepth 20000 in
theorem gL_law_X8_jar : GoodIn wsL_law (wsV RL 67 RX8 yX8_jar wsX8_jar) := goodIn_app (goodIn_of _ (by decide +kernel)) ggL_law_X8_jar
set_option maxRecDepth 20000 in
theorem ggL_law_X8_lot : GoodIn wsL_law wsX8_lot := goodIn_r _ [168, 169, 170, 13, 12, 171, 172, 22, 173, 174, 2, 175, 176, 177, 178, 179, 10, 11, 35, 180, 181, 182, 20, 21, 183, 184, 185, 186, 187, 188, 189, 190, 40, 41, 42, 43, 44, 191, 192, 193, 194, 195, 196, 197, 198, 199, 200, 201, 202, 203, 204, 205, 206, 207, 933, 934, 935, 936, 937, 938, 939, 940, 941, 942, 943, 944, 945, 946, 947, 1028, 1029, 1030, 1031, 1032, 1033, 1034, 1035, 1036, 1037, 992, 993] (by decide +kernel) (by decide +kernel)
set_option maxRecDepth 20000 in
theorem gL_law_X8_lot : GoodIn wsL_law (wsV RL 27 RX8 yX8_lot wsX8_lot) := goodIn_app (goodIn_of _ (by decide +kernel)) ggL_law_X8_lot
set_option maxRecDepth 20000 in
theorem ggL_law_X8_measure : GoodIn wsL_law wsX8_measure := goodIn_r _ [418, 390, 391, 392, 2, 393, 16, 285, 286, 287, 288, 15, 173, 174, 175, 419, 420, 421, 422, 423, 424, 425, 426, 427, 428, 429, 430, 431, 282, 322, 432, 433, 434, 435, 436, 170, 13, 410, 336, 337, 39, 338, 78, 437, 438, 439, 172, 440, 186, 187, 180, 181, 188, 933, 934, 935, 936, 937, 938, 939, 940, 941, 942, 943, 944, 945, 946, 947, 1018, 1019, 1020, 1021, 1022, 1028, 1029, 1030, 1031, 1032, 1033, 1034, 1035, 1036, 1037] (by decide +kernel) (by decide +kernel)
set_option maxRecDepth 20000 in
theorem gL_law_X8_measure : GoodIn wsL_law (wsV RL 83 RX8 yX8_measure wsX8_measure) := goodIn_app (goodIn_of _ (by decide +kernel)) ggL_law_X8_measure
set_option maxRecDepth 20000 in
theorem ggL_law_X8_move : GoodIn wsL_law wsX8_move := goodIn_r _ [321, 282, 322, 30, 285, 286, 287, 2, 288, 15, 173, 174, 175, 305, 306, 307, 39, 308, 79, 309, 323, 324, 325, 29, 326, 61, 327, 328, 329, 330, 331, 332, 63, 333, 334, 192, 193, 194, 335, 336, 337, 338, 78, 339, 340, 341, 342, 343, 311, 312, 313, 344, 345, 346, 347, 348, 349, 350, 351, 1018, 1019, 1020, 1021, 1022, 933, 934, 935, 936, 937, 938, 939, 940, 941, 942, 943, 944, 945, 946, 947, 1002, 1003] (by decide +kernel) (by decide +kernel)
set_option maxRecDepth 20000 in
theorem gL_law_X8_move : GoodIn wsL_law (wsV RL 59 RX8 yX8_move wsX8_move) := goodIn_app (goodIn_of _ (by decide +kernel)) ggL_law_X8_move
set_option maxRecDepth 20000 in
theorem ggL_law_X8_name : GoodIn wsL_law wsX8_name := goodIn_r _ [787, 282, 18, 390, 391, 392, 2, 393, 16, 285, 286, 287, 288, 15, 173, 174, 175, 788, 789, 790, 791, 747, 746, 748, 792, 761, 762, 763, 764, 765, 36, 766, 628, 350, 629, 767, 349, 351, 768, 769, 770, 771, 433, 434, 435, 436, 322, 170, 13, 410, 336, 337, 39, 338, 78, 437, 438, 439, 172, 440, 186, 187, 180, 181, 188, 423, 424, 426, 427, 422, 1018, 1019, 1020, 1021, 1022, 933, 934, 935, 936, 937, 938, 939, 940, 941, 942, 943, 944, 945, 946, 947, 1038, 1039, 1040, 1041, 1042, 1028, 1029, 1030, 1031, 1032, 1033, 1034, 1035, 1036, 1037] (by decide +kernel) (by decide +kernel)
set_option maxRecDepth 20000 in
theorem gL_law_X8_name : GoodIn wsL_law (wsV RL 106 RX8 yX8_name wsX8_name) := goodIn_app (goodIn_of _ (by decide +kernel)) ggL_law_X8_name
set_option maxRecDepth 20000 in
theorem ggL_law_X8_of : GoodIn wsL_law wsX8_of := goodIn_r _ [260, 261, 250, 248, 262, 263, 264, 247, 227, 228, 229, 2, 230, 13, 173, 174, 175, 1028, 1029, 1030, 1031, 1032, 1033, 1034, 1035, 1036, 1037, 933, 934, 935, 936, 937, 938, 939, 940, 941, 942, 943, 944, 945, 946, 947] (by decide +kernel) (by decide +kernel)
set_option maxRecDepth 20000 in
theorem gL_law_X8_of : GoodIn wsL_law (wsV RL 41 RX8 yX8_of wsX8_of) := goodIn_app (goodIn_of _ (by decide +kernel)) ggL_law_X8_of
set_option maxRecDepth 20000 in
theorem ggL_law_X8_paid : GoodIn wsL_law wsX8_paid := goodIn_r _ [820, 821, 13, 261, 247, 173, 174, 2, 175, 933, 934, 935, 936, 937, 938, 939, 940, 941, 942, 943, 944, 945, 946, 947, 1028, 1029, 1030, 1031, 1032, 1033, 1034, 1035, 1036, 1037] (by decide +kernel) (by decide +kernel)
set_option maxRecDepth 20000 in
theorem gL_law_X8_paid : GoodIn wsL_law (wsV RL 114 RX8 yX8_paid wsX8_paid) := goodIn_app (goodIn_of _ (by decide +kernel)) ggL_law_X8_paid
set_option maxRecDepth 20000 in
theorem ggL_law_X8_part : GoodIn wsL_law wsX8_part := goodIn_r _ [409, 390, 391, 392, 2, 393, 16, 285, 286, 287, 288, 15, 173, 174, 175, 227, 228, 229, 230, 13, 410, 336, 337, 39, 338, 78, 933, 934, 935, 936, 937, 938, 939, 940, 941, 942, 943, 944, 945, 946, 947, 1018, 1019, 1020, 1021, 1022] (by decide +kernel) (by decide +kernel)
set_option maxRecDepth 20000 in
theorem gL_law_X8_part : GoodIn wsL_law (wsV RL 79 RX8 yX8_part wsX8_part) := goodIn_app (goodIn_of _ (by decide +kernel)) ggL_law_X8_part
set_option maxRecDepth 20000 in
theorem ggL_law_X8_parts : GoodIn wsL_law wsX8_parts := goodIn_r _ [886, 34, 887, 888, 285, 286, 287, 2, 288, 15, 173, 174, 175, 933, 934, 935, 936, 937, 938, 939, 940, 941, 942, 943, 944, 945, 946, 947, 1004, 1005, 1006, 1007, 1008, 1009, 1010, 1011, 1012, 1013, 1014, 1015, 1016, 1017] (by decide +kernel) (by decide +kernel)
set_option maxRecDepth 20000 in
theorem gL_law_X8_parts : GoodIn wsL_law (wsV RL 123 RX8 yX8_parts wsX8_parts) := goodIn_app (goodIn_of _ (by decide +kernel)) ggL_law_X8_parts
set_option maxRecDepth 20000 in
theorem ggL_law_X8_pollen : GoodIn wsL_law wsX8_pollen := goodIn_r _ [224, 225, 226, 227, 228, 229, 2, 230, 13, 173, 174, 175, 231, 232, 233, 1028, 1029, 1030, 1031, 1032, 1033, 1034, 1035, 1036, 1037, 933, 934, 935, 936, 937, 938, 939, 940, 941, 942, 943, 944, 945, 946, 947] (by decide +kernel) (by decide +kernel)
set_option maxRecDepth 20000 in
theorem gL_law_X8_pollen : GoodIn wsL_law (wsV RL 31 RX8 yX8_pollen wsX8_pollen) := goodIn_app (goodIn_of _ (by decide +kernel)) ggL_law_X8_pollen
set_option maxRecDepth 20000 in
theorem ggL_law_X8_pour : GoodIn wsL_law wsX8_pour := goodIn_r _ [304, 264, 227, 228, 229, 2, 230, 13, 173, 174, 175, 285, 286, 287, 288, 15, 305, 306, 307, 39, 308, 79, 309, 310, 311, 312, 313, 78, 1028, 1029, 1030, 1031, 1032, 1033, 1034, 1035, 1036, 1037, 933, 934, 935, 936, 937, 938, 939, 940, 941, 942, 943, 944, 945, 946, 947, 1018, 1019, 1020, 1021, 1022] (by decide +kernel) (by decide +kernel)
set_option maxRecDepth 20000 in
theorem gL_law_X8_pour : GoodIn wsL_law (wsV RL 55 RX8 yX8_pour wsX8_pour) := goodIn_app (goodIn_of _ (by decide +kernel)) ggL_law_X8_pour
set_option maxRecDepth 20000 in
theorem ggL_law_X8_rule : GoodIn wsL_law wsX8_rule := goodIn_r _ [456, 26, 133, 134, 457, 18, 17, 458, 459, 460, 461, 462, 463, 464, 25, 465, 466, 52, 467, 51, 468, 469, 470, 471, 472, 473, 50, 474, 475, 476, 477, 478, 479, 139, 480, 481, 482, 483, 484, 485, 57, 486, 487, 488, 489, 490, 491, 492, 493, 494, 495, 496, 497, 498, 499, 500, 501, 502, 503, 504, 505, 506, 507, 508, 509, 510, 511, 512, 513, 514, 515, 516, 517, 518, 519, 520, 521, 522, 523, 524, 525, 526, 527, 528, 529, 530, 531, 532, 533, 534, 535, 536, 537, 538, 539, 540, 541, 542, 543, 544, 545, 546, 547, 548, 549, 550, 551, 552, 553, 554, 555, 556, 557, 558, 559, 560, 561, 562, 563, 564, 565, 566, 567, 568, 569, 570, 571, 572, 573, 574, 575, 576, 577, 578, 579, 580, 581, 582, 583, 584, 585, 586, 587, 588, 589, 590, 591, 592, 593, 53, 594, 595, 596, 597, 598, 599, 600, 601, 602, 603, 604, 605, 606, 607, 608, 609, 610, 611, 612, 613, 614, 615, 616, 617, 618, 619, 193, 620, 621, 622, 623, 624, 625, 626, 35, 627, 628, 350, 629, 630, 200, 201, 202, 631, 632, 633, 634, 10, 11, 635, 636, 637, 933, 934, 935, 936, 937, 938, 939, 940, 941, 942, 943, 944, 945, 946, 947, 994, 995, 996, 997, 998, 999, 1000, 1001, 1023, 1024, 1025, 1026, 1027, 1038, 1039, 1040, 1041, 1042] (by decide +kernel) (by decide +kernel)
set_option maxRecDepth 20000 in
theorem gL_law_X8_rule : GoodIn wsL_law (wsV RL 87 RX8 yX8_rule wsX8_rule) := goodIn_app (goodIn_of _ (by decide +kernel)) ggL_law_X8_rule
set_option maxRecDepth 20000 in
theorem ggL_law_X8_says : GoodIn wsL_law wsX8_says := goodIn_r _ [760, 282, 749, 750, 751, 2, 752, 18, 173, 174, 175, 390, 391, 392, 393, 16, 285, 286, 287, 288, 15, 761, 762, 763, 764, 765, 36, 766, 628, 350, 629, 767, 349, 351, 768, 769, 770, 771, 433, 434, 435, 436, 322, 170, 13, 410, 336, 337, 39, 338, 78, 437, 438, 439, 172, 440, 186, 187, 180, 181, 188, 423, 424, 426, 427, 422, 1018, 1019, 1020, 1021, 1022, 933, 934, 935, 936, 937, 938, 939, 940, 941, 942, 943, 944, 945, 946, 947, 1038, 1039, 1040, 1041, 1042, 1028, 1029, 1030, 1031, 1032, 1033, 1034, 1035, 1036, 1037] (by decide +kernel) (by decide +kernel)
set_option maxRecDepth 20000 in
theorem gL_law_X8_says : GoodIn wsL_law (wsV RL 102 RX8 yX8_says wsX8_says) := goodIn_app (goodIn_of _ (by decide +kernel)) ggL_law_X8_says
set_option maxRecDepth 20000 in
theorem ggL_law_X8_shut : GoodIn wsL_law wsX8_shut := goodIn_r _ [745, 746, 747, 748, 749, 750, 751, 2, 752, 18, 173, 174, 175, 1038, 1039, 1040, 1041, 1042, 933, 934, 935, 936, 937, 938, 939, 940, 941, 942, 943, 944, 945, 946, 947] (by decide +kernel) (by decide +kernel)
set_option maxRecDepth 20000 in
theorem gL_law_X8_shut : GoodIn wsL_law (wsV RL 97 RX8 yX8_shut wsX8_shut) := goodIn_app (goodIn_of _ (by decide +kernel)) ggL_law_X8_shut
set_option maxRecDepth 20000 in
theorem ggL_law_X8_span : GoodIn wsL_law wsX8_span := goodIn_r _ [272, 225, 226, 227, 228, 229, 2, 230, 13, 173, 174, 175, 1028, 1029, 1030, 1031, 1032, 1033, 1034, 1035, 1036, 1037, 933, 934, 935, 936, 937, 938, 939, 940, 941, 942, 943, 944, 945, 946, 947] (by decide +kernel) (by decide +kernel)
set_option maxRecDepth 20000 in
theorem gL_law_X8_span : GoodIn wsL_law (wsV RL 45 RX8 yX8_span wsX8_span) := goodIn_app (goodIn_of _ (by decide +kernel)) ggL_law_X8_span
set_option maxRecDepth 20000 in
theorem ggL_law_X8_spill : GoodIn wsL_law wsX8_spill := goodIn_r _ [381, 282, 30, 285, 286, 287, 2, 288, 15, 173, 174, 175, 323, 324, 325, 29, 326, 61, 327, 328, 329, 330, 331, 332, 63, 333, 334, 192, 193, 194, 335, 336, 337, 39, 338, 78, 339, 340, 341, 342, 343, 311, 312, 313, 309, 1018, 1019, 1020, 1021, 1022, 933, 934, 935, 936, 937, 938, 939, 940, 941, 942, 943, 944, 945, 946, 947, 1002, 1003] (by decide +kernel) (by decide +kernel)
set_option maxRecDepth 20000 in
theorem gL_law_X8_spill : GoodIn wsL_law (wsV RL 71 RX8 yX8_spill wsX8_spill) := goodIn_app (goodIn_of _ (by decide +kernel)) ggL_law_X8_spill
set_option maxRecDepth 20000 in
theorem ggL_law_X8_step : GoodIn wsL_law wsX8_step := goodIn_r _ [808, 809, 22, 810, 811, 173, 174, 2, 175, 933, 934, 935, 936, 937, 938, 939, 940, 941, 942, 943, 944, 945, 946, 947, 992, 993] (by decide +kernel) (by decide +kernel)
set_option maxRecDepth 20000 in
theorem gL_law_X8_step : GoodIn wsL_law (wsV RL 110 RX8 yX8_step wsX8_step) := goodIn_app (goodIn_of _ (by decide +kernel)) ggL_law_X8_step
set_option maxRecDepth 20000 in
theorem ggL_law_X8_tank : GoodIn wsL_law wsX8_tank := goodIn_r _ [280, 281, 282, 283, 284, 285, 286, 287, 2, 288, 15, 173, 174, 175, 1018, 1019, 1020, 1021, 1022, 933, 934, 935, 936, 937, 938, 939, 940, 941, 942, 943, 944, 945, 946, 947] (by decide +kernel) (by decide +kernel)
set_option maxRecDepth 20000 in
theorem gL_law_X8_tank : GoodIn wsL_law (wsV RL 50 RX8 yX8_tank wsX8_tank) := goodIn_app (goodIn_of _ (by decide +kernel)) ggL_law_X8_tank
set_option maxRecDepth 20000 in
theorem ggL_law_X8_test : GoodIn wsL_law wsX8_test := goodIn_r _ [245, 246, 247, 248, 249, 250, 227, 228, 229, 2, 230, 13, 173, 174, 175, 251, 204, 205, 21, 206, 43, 44, 207, 1028, 1029, 1030, 1031, 1032, 1033, 1034, 1035, 1036, 1037, 933, 934, 935, 936, 937, 938, 939, 940, 941, 942, 943, 944, 945, 946, 947, 992, 993] (by decide +kernel) (by decide +kernel)
set_option maxRecDepth 20000 in
theorem gL_law_X8_test : GoodIn wsL_law (wsV RL 36 RX8 yX8_test wsX8_test) := goodIn_app (goodIn_of _ (by decide +kernel)) ggL_law_X8_test
set_option maxRecDepth 20000 in
theorem ggL_law_X8_today : GoodIn wsL_law wsX8_today := goodIn_r _ [159, 160, 933, 934, 935, 936, 937, 938, 939, 940, 941, 942, 943, 944, 945, 946, 947] (by decide +kernel) (by decide +kernel)
set_option maxRecDepth 20000 in
theorem gL_law_X8_today : GoodIn wsL_law (wsV RL 23 RX8 yX8_today wsX8_today) := goodIn_app (goodIn_of _ (by decide +kernel)) ggL_law_X8_today
set_option maxRecDepth 20000 in
theorem ggL_law_X8_trace : GoodIn wsL_law wsX8_trace := goodIn_r _ [896, 897, 16, 37, 227, 228, 229, 2, 230, 13, 173, 174, 175, 410, 336, 337, 39, 338, 78, 933, 934, 935, 936, 937, 938, 939, 940, 941, 942, 943, 944, 945, 946, 947, 1018, 1019, 1020, 1021, 1022] (by decide +kernel) (by decide +kernel)
set_option maxRecDepth 20000 in
theorem gL_law_X8_trace : GoodIn wsL_law (wsV RL 127 RX8 yX8_trace wsX8_trace) := goodIn_app (goodIn_of _ (by decide +kernel)) ggL_law_X8_trace
set_option maxRecDepth 20000 in
theorem ggL_law_X8_warm : GoodIn wsL_law wsX8_warm := goodIn_r _ [364, 282, 322, 285, 286, 287, 2, 288, 15, 173, 174, 175, 1018, 1019, 1020, 1021, 1022, 933, 934, 935, 936, 937, 938, 939, 940, 941, 942, 943, 944, 945, 946, 947] (by decide +kernel) (by decide +kernel)
set_option maxRecDepth 20000 in
theorem gL_law_X8_warm : GoodIn wsL_law (wsV RL 63 RX8 yX8_warm wsX8_warm) := goodIn_app (goodIn_of _ (by decide +kernel)) ggL_law_X8_warm
set_option maxRecDepth 20000 in
theorem ggL_law_X8_whose : GoodIn wsL_law wsX8_whose := goodIn_r _ [913, 821, 13, 261, 173, 174, 2, 175, 914, 915, 916, 917, 264, 15, 16, 250, 918, 919, 920, 410, 336, 337, 39, 338, 78, 933, 934, 935, 936, 937, 938, 939, 940, 941, 942, 943, 944, 945, 946, 947, 1028, 1029, 1030, 1031, 1032, 1033, 1034, 1035, 1036, 1037, 1018, 1019, 1020, 1021, 1022] (by decide +kernel) (by decide +kernel)
set_option maxRecDepth 20000 in
theorem gL_law_X8_whose : GoodIn wsL_law (wsV RL 135 RX8 yX8_whose wsX8_whose) := goodIn_app (goodIn_of _ (by decide +kernel)) ggL_law_X8_whose
set_option maxRecDepth 20000 in
theorem ggL_law_X9_blend : GoodIn wsL_law wsX9_blend := goodIn_p _ [881, 215, 300, 452] rfl (by decide +kernel)
set_option maxRecDepth 20000 in
theorem gL_law_X9_blend : GoodIn wsL_law (wsV RL 122 RX9 yX9_blend wsX9_blend) := goodIn_app (goodIn_of _ (by decide +kernel)) ggL_law_X9_blend
set_option maxRecDepth 20000 in
theorem ggL_law_X9_count : GoodIn wsL_law wsX9_count := goodIn_r _ [932, 88, 98, 99, 87, 948, 949, 950, 951, 952, 953, 954, 955, 956, 957, 958, 959, 960, 961, 962, 963, 964, 965, 966, 967, 968, 969, 970, 971, 972, 973, 974, 975, 976, 977, 978, 979, 980, 981, 982, 983, 984, 985, 986, 987, 988, 989, 990, 991] (by decide +kernel) (by decide +kernel)
set_option maxRecDepth 20000 in
theorem gL_law_X9_count : GoodIn wsL_law (wsV RL 143 RX9 yX9_count wsX9_count) := goodIn_app (goodIn_of _ (by decide +kernel)) ggL_law_X9_count
set_option maxRecDepth 20000 in
theorem ggL_law_X9_end : GoodIn wsL_law wsX9_end := goodIn_r _ [155, 86, 948, 949, 950, 951, 952, 953, 954, 955, 956, 957, 958, 959, 960, 961, 962, 963, 964, 965, 966, 967, 968, 969, 970, 971, 972, 973, 974, 975, 976, 977, 978, 979, 980, 981, 982, 983, 984, 985, 986, 987, 988, 989, 990, 991] (by decide +kernel) (by decide +kernel)
set_option maxRecDepth 20000 in
theorem gL_law_X9_end : GoodIn wsL_law (wsV RL 22 RX9 yX9_end wsX9_end) := goodIn_app (goodIn_of _ (by decide +kernel)) ggL_law_X9_end
set_option maxRecDepth 20000 in
theorem ggL_law_X9_fault : GoodIn wsL_law wsX9_fault := goodIn_r _ [741, 106, 107, 948, 949, 950, 951, 952, 953, 954, 955, 956, 957, 958, 959, 960, 961, 962, 963, 964, 965, 966, 967, 968, 969, 970, 971, 972, 973, 974, 975, 976, 977, 978, 979, 980, 981, 982, 983, 984, 985, 986, 987, 988, 989, 990, 991] (by decide +kernel) (by decide +kernel)
set_option maxRecDepth 20000 in
theorem gL_law_X9_fault : GoodIn wsL_law (wsV RL 96 RX9 yX9_fault wsX9_fault) := goodIn_app (goodIn_of _ (by decide +kernel)) ggL_law_X9_fault
set_option maxRecDepth 20000 in
theorem ggL_law_X9_feed : GoodIn wsL_law wsX9_feed := goodIn_r _ [143, 86, 144, 145, 146, 5, 147, 85, 948, 949, 950, 951, 952, 953, 954, 955, 956, 957, 958, 959, 960, 961, 962, 963, 964, 965, 966, 967, 968, 969, 970, 971, 972, 973, 974, 975, 976, 977, 978, 979, 980, 981, 982, 983, 984, 985, 986, 987, 988, 989, 990, 991] (by decide +kernel) (by decide +kernel)
set_option maxRecDepth 20000 in
theorem gL_law_X9_feed : GoodIn wsL_law (wsV RL 17 RX9 yX9_feed wsX9_feed) := goodIn_app (goodIn_of _ (by decide +kernel)) ggL_law_X9_feed
set_option maxRecDepth 20000 in
theorem ggL_law_X9_found : GoodIn wsL_law wsX9_found := goodIn_r _ [909, 128, 127, 948, 949, 950, 951, 952, 953, 954, 955, 956, 957, 958, 959, 960, 961, 962, 963, 964, 965, 966, 967, 968, 969, 970, 971, 972, 973, 974, 975, 976, 977, 978, 979, 980, 981, 982, 983, 984, 985, 986, 987, 988, 989, 990, 991] (by decide +kernel) (by decide +kernel)
set_option maxRecDepth 20000 in
theorem gL_law_X9_found : GoodIn wsL_law (wsV RL 134 RX9 yX9_found wsX9_found) := goodIn_app (goodIn_of _ (by decide +kernel)) ggL_law_X9_found
set_option maxRecDepth 20000 in
theorem ggL_law_X9_holds : GoodIn wsL_law wsX9_holds := goodIn_r _ [401, 88, 94, 95, 96, 97, 402, 403, 404, 5, 405, 98, 294, 295, 296, 297, 298, 299, 300, 948, 949, 950, 951, 952, 953, 954, 955, 956, 957, 958, 959, 960, 961, 962, 963, 964, 965, 966, 967, 968, 969, 970, 971, 972, 973, 974, 975, 976, 977, 978, 979, 980, 981, 982, 983, 984, 985, 986, 987, 988, 989, 990, 991] (by decide +kernel) (by decide +kernel)
set_option maxRecDepth 20000 in
theorem gL_law_X9_holds : GoodIn wsL_law (wsV RL 78 RX9 yX9_holds wsX9_holds) := goodIn_app (goodIn_of _ (by decide +kernel)) ggL_law_X9_holds
set_option maxRecDepth 20000 in
theorem ggL_law_X9_init : GoodIn wsL_law wsX9_init := goodIn_r _ [83, 84, 10, 11, 35, 85, 86, 87, 88, 89, 90, 91, 92, 93, 94, 95, 96, 97, 98, 99, 100, 101, 102, 103, 104, 105, 106, 107, 108, 62, 109, 110, 111, 112, 113, 114, 115, 116, 117, 118, 119, 120, 121, 122, 123, 124, 125, 126, 127, 128, 948, 949, 950, 951, 952, 953, 954, 955, 956, 957, 958, 959, 960, 961, 962, 963, 964, 965, 966, 967, 968, 969, 970, 971, 972, 973, 974, 975, 976, 977, 978, 979, 980, 981, 982, 983, 984, 985, 986, 987, 988, 989, 990, 991] (by decide +kernel) (by decide +kernel)
set_option maxRecDepth 20000 in
theorem gL_law_X9_init : GoodIn wsL_law (wsX9_init) := ggL_law_X9_init
set_option maxRecDepth 20000 in
theorem ggL_law_X9_jar : GoodIn wsL_law wsX9_jar := goodIn_r _ [377, 98, 95, 96, 97, 87, 94, 88, 108, 294, 295, 5, 296, 297, 298, 299, 300, 356, 357, 358, 359, 109, 360, 948, 949, 950, 951, 952, 953, 954, 955, 956, 957, 958, 959, 960, 961, 962, 963, 964, 965, 966, 967, 968, 969, 970, 971, 972, 973, 974, 975, 976, 977, 978, 979, 980, 981, 982, 983, 984, 985, 986, 987, 988, 989, 990, 991] (by decide +kernel) (by decide +kernel)
set_option maxRecDepth 20000 in
theorem gL_law_X9_jar : GoodIn wsL_law (wsV RL 70 RX9 yX9_jar wsX9_jar) := goodIn_app (goodIn_of _ (by decide +kernel)) ggL_law_X9_jar
set_option maxRecDepth 20000 in
theorem ggL_law_X9_lot : GoodIn wsL_law wsX9_lot := goodIn_r _ [211, 212, 88, 89, 90, 91, 92, 93, 213, 214, 5, 215, 216, 217, 218, 219, 220, 948, 949, 950, 951, 952, 953, 954, 955, 956, 957, 958, 959, 960, 961, 962, 963, 964, 965, 966, 967, 968, 969, 970, 971, 972, 973, 974, 975, 976, 977, 978, 979, 980, 981, 982, 983, 984, 985, 986, 987, 988, 989, 990, 991] (by decide +kernel) (by decide +kernel)
set_option maxRecDepth 20000 in
theorem gL_law_X9_lot : GoodIn wsL_law (wsV RL 30 RX9 yX9_lot wsX9_lot) := goodIn_app (goodIn_of _ (by decide +kernel)) ggL_law_X9_lot
set_option maxRecDepth 20000 in
theorem ggL_law_X9_measure : GoodIn wsL_law wsX9_measure := goodIn_r _ [444, 95, 445, 402, 403, 404, 5, 405, 98, 294, 295, 296, 297, 298, 299, 300, 88, 94, 446, 447, 448, 213, 214, 215, 449, 450, 451, 452, 89, 90, 91, 948, 949, 950, 951, 952, 953, 954, 955, 956, 957, 958, 959, 960, 961, 962, 963, 964, 965, 966, 967, 968, 969, 970, 971, 972, 973, 974, 975, 976, 977, 978, 979, 980, 981, 982, 983, 984, 985, 986, 987, 988, 989, 990, 991] (by decide +kernel) (by decide +kernel)
set_option maxRecDepth 20000 in
theorem gL_law_X9_measure : GoodIn wsL_law (wsV RL 86 RX9 yX9_measure wsX9_measure) := goodIn_app (goodIn_of _ (by decide +kernel)) ggL_law_X9_measure
set_option maxRecDepth 20000 in
theorem ggL_law_X9_move : GoodIn wsL_law wsX9_move := goodIn_r _ [355, 96, 95, 88, 94, 108, 294, 295, 5, 296, 297, 298, 299, 300, 356, 357, 358, 359, 109, 360, 948, 949, 950, 951, 952, 953, 954, 955, 956, 957, 958, 959, 960, 961, 962, 963, 964, 965, 966, 967, 968, 969, 970, 971, 972, 973, 974, 975, 976, 977, 978, 979, 980, 981, 982, 983, 984, 985, 986, 987, 988, 989, 990, 991] (by decide +kernel) (by decide +kernel)
set_option maxRecDepth 20000 in
theorem gL_law_X9_move : GoodIn wsL_law (wsV RL 62 RX9 yX9_move wsX9_move) := goodIn_app (goodIn_of _ (by decide +kernel)) ggL_law_X9_move
set_option maxRecDepth 20000 in
theorem ggL_law_X9_name_ : GoodIn wsL_law wsX9_name_ := goodIn_r _ [796, 99, 402, 403, 404, 5, 405, 98, 294, 295, 296, 297, 298, 299, 300, 88, 94, 797, 798, 799, 800, 102, 103, 801, 802, 803, 804, 101, 100, 776, 777, 778, 779, 105, 104, 119, 780, 781, 782, 783, 95, 449, 450, 451, 452, 89, 90, 91, 948, 949, 950, 951, 952, 953, 954, 955, 956, 957, 958, 959, 960, 961, 962, 963, 964, 965, 966, 967, 968, 969, 970, 971, 972, 973, 974, 975, 976, 977, 978, 979, 980, 981, 982, 983, 984, 985, 986, 987, 988, 989, 990, 991] (by decide +kernel) (by decide +kernel)
set_option maxRecDepth 20000 in
theorem gL_law_X9_name_ : GoodIn wsL_law (wsV RL 109 RX9 yX9_name_ wsX9_name_) := goodIn_app (goodIn_of _ (by decide +kernel)) ggL_law_X9_name_
set_option maxRecDepth 20000 in
theorem ggL_law_X9_of : GoodIn wsL_law wsX9_of := goodIn_r _ [268, 89, 238, 239, 240, 5, 241, 88, 213, 214, 215, 948, 949, 950, 951, 952, 953, 954, 955, 956, 957, 958, 959, 960, 961, 962, 963, 964, 965, 966, 967, 968, 969, 970, 971, 972, 973, 974, 975, 976, 977, 978, 979, 980, 981, 982, 983, 984, 985, 986, 987, 988, 989, 990, 991] (by decide +kernel) (by decide +kernel)
set_option maxRecDepth 20000 in
theorem gL_law_X9_of : GoodIn wsL_law (wsV RL 44 RX9 yX9_of wsX9_of) := goodIn_app (goodIn_of _ (by decide +kernel)) ggL_law_X9_of
set_option maxRecDepth 20000 in
theorem ggL_law_X9_paid : GoodIn wsL_law wsX9_paid := goodIn_r _ [825, 360, 88, 89, 213, 214, 5, 215, 948, 949, 950, 951, 952, 953, 954, 955, 956, 957, 958, 959, 960, 961, 962, 963, 964, 965, 966, 967, 968, 969, 970, 971, 972, 973, 974, 975, 976, 977, 978, 979, 980, 981, 982, 983, 984, 985, 986, 987, 988, 989, 990, 991] (by decide +kernel) (by decide +kernel)
set_option maxRecDepth 20000 in
theorem gL_law_X9_paid : GoodIn wsL_law (wsV RL 118 RX9 yX9_paid wsX9_paid) := goodIn_app (goodIn_of _ (by decide +kernel)) ggL_law_X9_paid
set_option maxRecDepth 20000 in
theorem ggL_law_X9_part : GoodIn wsL_law wsX9_part := goodIn_r _ [414, 94, 402, 403, 404, 5, 405, 98, 294, 295, 296, 238, 239, 240, 241, 88, 948, 949, 950, 951, 952, 953, 954, 955, 956, 957, 958, 959, 960, 961, 962, 963, 964, 965, 966, 967, 968, 969, 970, 971, 972, 973, 974, 975, 976, 977, 978, 979, 980, 981, 982, 983, 984, 985, 986, 987, 988, 989, 990, 991] (by decide +kernel) (by decide +kernel)
set_option maxRecDepth 20000 in
theorem gL_law_X9_part : GoodIn wsL_law (wsV RL 82 RX9 yX9_part wsX9_part) := goodIn_app (goodIn_of _ (by decide +kernel)) ggL_law_X9_part
set_option maxRecDepth 20000 in
theorem ggL_law_X9_parts : GoodIn wsL_law wsX9_parts := goodIn_r _ [892, 120, 121, 294, 295, 5, 296, 948, 949, 950, 951, 952, 953, 954, 955, 956, 957, 958, 959, 960, 961, 962, 963, 964, 965, 966, 967, 968, 969, 970, 971, 972, 973, 974, 975, 976, 977, 978, 979, 980, 981, 982, 983, 984, 985, 986, 987, 988, 989, 990, 991] (by decide +kernel) (by decide +kernel)
set_option maxRecDepth 20000 in
theorem gL_law_X9_parts : GoodIn wsL_law (wsV RL 126 RX9 yX9_parts wsX9_parts) := goodIn_app (goodIn_of _ (by decide +kernel)) ggL_law_X9_parts
set_option maxRecDepth 20000 in
theorem ggL_law_X9_pollen : GoodIn wsL_law wsX9_pollen := goodIn_r _ [237, 90, 91, 238, 239, 240, 5, 241, 88, 213, 214, 215, 948, 949, 950, 951, 952, 953, 954, 955, 956, 957, 958, 959, 960, 961, 962, 963, 964, 965, 966, 967, 968, 969, 970, 971, 972, 973, 974, 975, 976, 977, 978, 979, 980, 981, 982, 983, 984, 985, 986, 987, 988, 989, 990, 991] (by decide +kernel) (by decide +kernel)
set_option maxRecDepth 20000 in
theorem gL_law_X9_pollen : GoodIn wsL_law (wsV RL 35 RX9 yX9_pollen wsX9_pollen) := goodIn_app (goodIn_of _ (by decide +kernel)) ggL_law_X9_pollen
set_option maxRecDepth 20000 in
theorem ggL_law_X9_pour : GoodIn wsL_law wsX9_pour := goodIn_r _ [317, 89, 96, 94, 238, 239, 240, 5, 241, 88, 294, 295, 296, 297, 298, 299, 300, 948, 949, 950, 951, 952, 953, 954, 955, 956, 957, 958, 959, 960, 961, 962, 963, 964, 965, 966, 967, 968, 969, 970, 971, 972, 973, 974, 975, 976, 977, 978, 979, 980, 981, 982, 983, 984, 985, 986, 987, 988, 989, 990, 991] (by decide +kernel) (by decide +kernel)
set_option maxRecDepth 20000 in
theorem gL_law_X9_pour : GoodIn wsL_law (wsV RL 58 RX9 yX9_pour wsX9_pour) := goodIn_app (goodIn_of _ (by decide +kernel)) ggL_law_X9_pour
set_option maxRecDepth 20000 in
theorem ggL_law_X9_rule : GoodIn wsL_law wsX9_rule := goodIn_r _ [641, 86, 111, 106, 107, 99, 105, 115, 103, 642, 643, 644, 5, 645, 101, 102, 117, 100, 118, 104, 646, 647, 648, 649, 110, 650, 651, 652, 653, 85, 654, 655, 656, 657, 658, 659, 660, 661, 662, 663, 664, 665, 666, 667, 668, 669, 670, 671, 672, 673, 674, 675, 676, 677, 678, 679, 680, 681, 682, 683, 684, 685, 686, 687, 688, 689, 690, 691, 692, 693, 694, 695, 696, 114, 116, 113, 697, 698, 699, 700, 701, 702, 703, 704, 705, 706, 707, 708, 709, 710, 711, 712, 713, 714, 715, 716, 717, 718, 719, 720, 721, 722, 723, 724, 725, 726, 727, 728, 729, 730, 731, 948, 949, 950, 951, 952, 953, 954, 955, 956, 957, 958, 959, 960, 961, 962, 963, 964, 965, 966, 967, 968, 969, 970, 971, 972, 973, 974, 975, 976, 977, 978, 979, 980, 981, 982, 983, 984, 985, 986, 987, 988, 989, 990, 991] (by decide +kernel) (by decide +kernel)
set_option maxRecDepth 20000 in
theorem gL_law_X9_rule : GoodIn wsL_law (wsV RL 91 RX9 yX9_rule wsX9_rule) := goodIn_app (goodIn_of _ (by decide +kernel)) ggL_law_X9_rule
set_option maxRecDepth 20000 in
theorem ggL_law_X9_says : GoodIn wsL_law wsX9_says := goodIn_r _ [775, 99, 402, 403, 404, 5, 405, 98, 294, 295, 296, 297, 298, 299, 300, 88, 94, 776, 777, 778, 779, 105, 104, 119, 780, 781, 782, 783, 95, 449, 450, 451, 452, 89, 90, 91, 948, 949, 950, 951, 952, 953, 954, 955, 956, 957, 958, 959, 960, 961, 962, 963, 964, 965, 966, 967, 968, 969, 970, 971, 972, 973, 974, 975, 976, 977, 978, 979, 980, 981, 982, 983, 984, 985, 986, 987, 988, 989, 990, 991] (by decide +kernel) (by decide +kernel)
set_option maxRecDepth 20000 in
theorem gL_law_X9_says : GoodIn wsL_law (wsV RL 105 RX9 yX9_says wsX9_says) := goodIn_app (goodIn_of _ (by decide +kernel)) ggL_law_X9_says
set_option maxRecDepth 20000 in
theorem ggL_law_X9_shut : GoodIn wsL_law wsX9_shut := goodIn_r _ [756, 99, 103, 102, 948, 949, 950, 951, 952, 953, 954, 955, 956, 957, 958, 959, 960, 961, 962, 963, 964, 965, 966, 967, 968, 969, 970, 971, 972, 973, 974, 975, 976, 977, 978, 979, 980, 981, 982, 983, 984, 985, 986, 987, 988, 989, 990, 991] (by decide +kernel) (by decide +kernel)
set_option maxRecDepth 20000 in
theorem gL_law_X9_shut : GoodIn wsL_law (wsV RL 101 RX9 yX9_shut wsX9_shut) := goodIn_app (goodIn_of _ (by decide +kernel)) ggL_law_X9_shut
set_option maxRecDepth 20000 in
theorem ggL_law_X9_span : GoodIn wsL_law wsX9_span := goodIn_r _ [276, 90, 91, 238, 239, 240, 5, 241, 88, 213, 214, 215, 948, 949, 950, 951, 952, 953, 954, 955, 956, 957, 958, 959, 960, 961, 962, 963, 964, 965, 966, 967, 968, 969, 970, 971, 972, 973, 974, 975, 976, 977, 978, 979, 980, 981, 982, 983, 984, 985, 986, 987, 988, 989, 990, 991] (by decide +kernel) (by decide +kernel)
set_option maxRecDepth 20000 in
theorem gL_law_X9_span : GoodIn wsL_law (wsV RL 49 RX9 yX9_span wsX9_span) := goodIn_app (goodIn_of _ (by decide +kernel)) ggL_law_X9_span
set_option maxRecDepth 20000 in
theorem ggL_law_X9_spill : GoodIn wsL_law wsX9_spill := goodIn_r _ [385, 294, 295, 5, 296, 297, 298, 299, 300, 88, 94, 356, 357, 358, 359, 108, 109, 360, 95, 948, 949, 950, 951, 952, 953, 954, 955, 956, 957, 958, 959, 960, 961, 962, 963, 964, 965, 966, 967, 968, 969, 970, 971, 972, 973, 974, 975, 976, 977, 978, 979, 980, 981, 982, 983, 984, 985, 986, 987, 988, 989, 990, 991] (by decide +kernel) (by decide +kernel)
set_option maxRecDepth 20000 in
theorem gL_law_X9_spill : GoodIn wsL_law (wsV RL 74 RX9 yX9_spill wsX9_spill) := goodIn_app (goodIn_of _ (by decide +kernel)) ggL_law_X9_spill
set_option maxRecDepth 20000 in
theorem ggL_law_X9_step : GoodIn wsL_law wsX9_step := goodIn_r _ [815, 816, 93, 213, 214, 5, 215, 948, 949, 950, 951, 952, 953, 954, 955, 956, 957, 958, 959, 960, 961, 962, 963, 964, 965, 966, 967, 968, 969, 970, 971, 972, 973, 974, 975, 976, 977, 978, 979, 980, 981, 982, 983, 984, 985, 986, 987, 988, 989, 990, 991] (by decide +kernel) (by decide +kernel)
set_option maxRecDepth 20000 in
theorem gL_law_X9_step : GoodIn wsL_law (wsV RL 113 RX9 yX9_step wsX9_step) := goodIn_app (goodIn_of _ (by decide +kernel)) ggL_law_X9_step
set_option maxRecDepth 20000 in
theorem ggL_law_X9_tank : GoodIn wsL_law wsX9_tank := goodIn_r _ [292, 293, 96, 97, 294, 295, 5, 296, 213, 214, 215, 297, 298, 299, 300, 88, 94, 948, 949, 950, 951, 952, 953, 954, 955, 956, 957, 958, 959, 960, 961, 962, 963, 964, 965, 966, 967, 968, 969, 970, 971, 972, 973, 974, 975, 976, 977, 978, 979, 980, 981, 982, 983, 984, 985, 986, 987, 988, 989, 990, 991] (by decide +kernel) (by decide +kernel)
set_option maxRecDepth 20000 in
theorem gL_law_X9_tank : GoodIn wsL_law (wsV RL 54 RX9 yX9_tank wsX9_tank) := goodIn_app (goodIn_of _ (by decide +kernel)) ggL_law_X9_tank
set_option maxRecDepth 20000 in
theorem ggL_law_X9_test : GoodIn wsL_law wsX9_test := goodIn_r _ [255, 256, 89, 238, 239, 240, 5, 241, 88, 213, 214, 215, 216, 217, 218, 219, 92, 220, 948, 949, 950, 951, 952, 953, 954, 955, 956, 957, 958, 959, 960, 961, 962, 963, 964, 965, 966, 967, 968, 969, 970, 971, 972, 973, 974, 975, 976, 977, 978, 979, 980, 981, 982, 983, 984, 985, 986, 987, 988, 989, 990, 991] (by decide +kernel) (by decide +kernel)
set_option maxRecDepth 20000 in
theorem gL_law_X9_test : GoodIn wsL_law (wsV RL 40 RX9 yX9_test wsX9_test) := goodIn_app (goodIn_of _ (by decide +kernel)) ggL_law_X9_test
set_option maxRecDepth 20000 in
theorem ggL_law_X9_today : GoodIn wsL_law wsX9_today := goodIn_r _ [164, 87, 948, 949, 950, 951, 952, 953, 954, 955, 956, 957, 958, 959, 960, 961, 962, 963, 964, 965, 966, 967, 968, 969, 970, 971, 972, 973, 974, 975, 976, 977, 978, 979, 980, 981, 982, 983, 984, 985, 986, 987, 988, 989, 990, 991] (by decide +kernel) (by decide +kernel)
set_option maxRecDepth 20000 in
theorem gL_law_X9_today : GoodIn wsL_law (wsV RL 26 RX9 yX9_today wsX9_today) := goodIn_app (goodIn_of _ (by decide +kernel)) ggL_law_X9_today
set_option maxRecDepth 20000 in
theorem ggL_law_X9_trace : GoodIn wsL_law wsX9_trace := goodIn_r _ [901, 128, 98, 94, 127, 238, 239, 240, 5, 241, 88, 948, 949, 950, 951, 952, 953, 954, 955, 956, 957, 958, 959, 960, 961, 962, 963, 964, 965, 966, 967, 968, 969, 970, 971, 972, 973, 974, 975, 976, 977, 978, 979, 980, 981, 982, 983, 984, 985, 986, 987, 988, 989, 990, 991] (by decide +kernel) (by decide +kernel)
set_option maxRecDepth 20000 in
theorem gL_law_X9_trace : GoodIn wsL_law (wsV RL 130 RX9 yX9_trace wsX9_trace) := goodIn_app (goodIn_of _ (by decide +kernel)) ggL_law_X9_trace
set_option maxRecDepth 20000 in
theorem ggL_law_X9_warm : GoodIn wsL_law wsX9_warm := goodIn_r _ [368, 95, 294, 295, 5, 296, 297, 298, 299, 300, 88, 94, 213, 214, 215, 948, 949, 950, 951, 952, 953, 954, 955, 956, 957, 958, 959, 960, 961, 962, 963, 964, 965, 966, 967, 968, 969, 970, 971, 972, 973, 974, 975, 976, 977, 978, 979, 980, 981, 982, 983, 984, 985, 986, 987, 988, 989, 990, 991] (by decide +kernel) (by decide +kernel)
set_option maxRecDepth 20000 in
theorem gL_law_X9_warm : GoodIn wsL_law (wsV RL 66 RX9 yX9_warm wsX9_warm) := goodIn_app (goodIn_of _ (by decide +kernel)) ggL_law_X9_warm
set_option maxRecDepth 20000 in
theorem ggL_law_X9_whose : GoodIn wsL_law wsX9_whose := goodIn_r _ [924, 360, 88, 89, 98, 94, 213, 214, 5, 215, 948, 949, 950, 951, 952, 953, 954, 955, 956, 957, 958, 959, 960, 961, 962, 963, 964, 965, 966, 967, 968, 969, 970, 971, 972, 973, 974, 975, 976, 977, 978, 979, 980, 981, 982, 983, 984, 985, 986, 987, 988, 989, 990, 991] (by decide +kernel) (by decide +kernel)
set_option maxRecDepth 20000 in
theorem gL_law_X9_whose : GoodIn wsL_law (wsV RL 139 RX9 yX9_whose wsX9_whose) := goodIn_app (goodIn_of _ (by decide +kernel)) ggL_law_X9_whose
