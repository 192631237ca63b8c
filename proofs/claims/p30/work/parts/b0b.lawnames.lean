set_option maxRecDepth 20000 in
theorem wl_r14 : ∀ w ∈ wsL_law_r14, w ∈ lw_tbl := in_of [438, 439, 1041, 1042, 1043, 1044, 440, 441, 442, 443, 245, 444, 445, 446, 447, 242, 244, 448, 450, 2, 451, 461, 452, 453] (by decide +kernel)
set_option maxRecDepth 20000 in
theorem wl_r15 : ∀ w ∈ wsL_law_r15, w ∈ lw_tbl := in_of [454, 455, 456, 457, 459, 3, 460, 462, 463, 464, 465, 466, 467, 468, 71, 469, 1045, 1046, 1047, 1048, 1049, 1051, 34, 1052] (by decide +kernel)
set_option maxRecDepth 20000 in
theorem wl_r16 : ∀ w ∈ wsL_law_r16, w ∈ lw_tbl := in_of [1053, 470, 471, 472, 473, 1054, 1055, 1056, 1057, 474, 475, 476, 477, 272, 1058, 1059, 1060, 1061, 478, 479, 480, 481, 1062, 1063] (by decide +kernel)
set_option maxRecDepth 20000 in
theorem wl_r17 : ∀ w ∈ wsL_law_r17, w ∈ lw_tbl := in_of [1064, 1065, 482, 483, 484, 485, 486, 488, 4, 489, 490, 491, 492, 493, 1066, 1067, 1068, 1069, 1070, 1072, 35, 1073, 494, 495] (by decide +kernel)
set_option maxRecDepth 20000 in
theorem wl_r18 : ∀ w ∈ wsL_law_r18, w ∈ lw_tbl := in_of [496, 497, 498, 1074, 1075, 1076, 1077, 499, 500, 501, 502, 503, 504, 505, 506, 507, 508, 509, 510, 511, 512, 514, 5, 515] (by decide +kernel)
set_option maxRecDepth 20000 in
theorem wl_r19 : ∀ w ∈ wsL_law_r19, w ∈ lw_tbl := in_of [516, 517, 519, 6, 520, 521, 522, 523, 524, 1078, 1079, 1080, 1081, 1085, 1082, 1083, 1084, 1086, 1088, 36, 1089, 527, 528, 529] (by decide +kernel)
set_option maxRecDepth 20000 in
theorem wl_r20 : ∀ w ∈ wsL_law_r20, w ∈ lw_tbl := in_of [530, 273, 682, 76, 143, 145, 531, 532, 533, 534, 146, 151, 152, 144, 122, 535, 536, 537, 538, 126, 539, 540, 541, 542] (by decide +kernel)
set_option maxRecDepth 20000 in
theorem wl_r21 : ∀ w ∈ wsL_law_r21, w ∈ lw_tbl := in_of [124, 123, 543, 545, 7, 546, 547, 548, 549, 550, 552, 8, 553, 127, 125, 142, 554, 556, 9, 557, 559, 560, 561, 562] (by decide +kernel)
set_option maxRecDepth 20000 in
theorem wl_r22 : ∀ w ∈ wsL_law_r22, w ∈ lw_tbl := in_of [563, 564, 565, 72, 566, 1250, 567, 568, 569, 570, 571, 1251, 573, 574, 575, 576, 577, 578, 579, 580, 581, 582, 73, 583] (by decide +kernel)
set_option maxRecDepth 20000 in
theorem wl_r23 : ∀ w ∈ wsL_law_r23, w ∈ lw_tbl := in_of [584, 585, 586, 587, 589, 590, 74, 591, 592, 593, 75, 594, 595, 596, 597, 598, 599, 600, 601, 602, 603, 604, 605, 607] (by decide +kernel)
set_option maxRecDepth 20000 in
theorem wl_r24 : ∀ w ∈ wsL_law_r24, w ∈ lw_tbl := in_of [609, 616, 618, 10, 619, 625, 627, 11, 628, 629, 631, 12, 632, 633, 634, 635, 636, 637, 638, 639, 641, 13, 642, 643] (by decide +kernel)
set_option maxRecDepth 20000 in
theorem wl_r25 : ∀ w ∈ wsL_law_r25, w ∈ lw_tbl := in_of [644, 645, 646, 647, 649, 14, 650, 651, 653, 15, 674, 676, 19, 677, 670, 672, 18, 673, 654, 655, 657, 16, 658, 659] (by decide +kernel)
set_option maxRecDepth 20000 in
theorem wl_r26 : ∀ w ∈ wsL_law_r26, w ∈ lw_tbl := in_of [661, 17, 662, 663, 664, 665, 666, 667, 668, 669, 678, 680, 20, 681, 683, 684, 685, 686, 687, 688, 689, 690, 691, 692] (by decide +kernel)
