theorem dX9_put_0 : decode cX9_put 0 = .ok (.bipush 24, 2) := by decide +kernel
theorem dX9_put_2 : decode cX9_put 2 = .ok (.istore_n 2, 1) := by decide +kernel
theorem dX9_put_3 : decode cX9_put 3 = .ok (.iload_n 2, 1) := by decide +kernel
theorem dX9_put_4 : decode cX9_put 4 = .ok (.ifCond .lt 35, 3) := by decide +kernel
theorem dX9_put_7 : decode cX9_put 7 = .ok (.aload_n 0, 1) := by decide +kernel
theorem dX9_put_8 : decode cX9_put 8 = .ok (.getfield 7, 3) := by decide +kernel
theorem dX9_put_11 : decode cX9_put 11 = .ok (.aload_n 0, 1) := by decide +kernel
theorem dX9_put_12 : decode cX9_put 12 = .ok (.getfield 13, 3) := by decide +kernel
theorem dX9_put_15 : decode cX9_put 15 = .ok (.iload_n 1, 1) := by decide +kernel
theorem dX9_put_16 : decode cX9_put 16 = .ok (.iload_n 2, 1) := by decide +kernel
theorem dX9_put_17 : decode cX9_put 17 = .ok (.ishr, 1) := by decide +kernel
theorem dX9_put_18 : decode cX9_put 18 = .ok (.sipush 255, 3) := by decide +kernel
theorem dX9_put_21 : decode cX9_put 21 = .ok (.iand, 1) := by decide +kernel
theorem dX9_put_22 : decode cX9_put 22 = .ok (.iastore, 1) := by decide +kernel
theorem dX9_put_23 : decode cX9_put 23 = .ok (.aload_n 0, 1) := by decide +kernel
theorem dX9_put_24 : decode cX9_put 24 = .ok (.dup, 1) := by decide +kernel
theorem dX9_put_25 : decode cX9_put 25 = .ok (.getfield 13, 3) := by decide +kernel
theorem dX9_put_28 : decode cX9_put 28 = .ok (.iconst 1, 1) := by decide +kernel
theorem dX9_put_29 : decode cX9_put 29 = .ok (.iadd, 1) := by decide +kernel
theorem dX9_put_30 : decode cX9_put 30 = .ok (.putfield 13, 3) := by decide +kernel
theorem dX9_put_33 : decode cX9_put 33 = .ok (.iinc 2 (-8), 3) := by decide +kernel
theorem dX9_put_36 : decode cX9_put 36 = .ok (.goto (-33), 3) := by decide +kernel
theorem dX9_put_39 : decode cX9_put 39 = .ok (.return_, 1) := by decide +kernel
theorem dX9_feed_0 : decode cX9_feed 0 = .ok (.aload_n 0, 1) := by decide +kernel
theorem dX9_feed_1 : decode cX9_feed 1 = .ok (.getfield 13, 3) := by decide +kernel
theorem dX9_feed_4 : decode cX9_feed 4 = .ok (.bipush 20, 2) := by decide +kernel
theorem dX9_feed_6 : decode cX9_feed 6 = .ok (.iadd, 1) := by decide +kernel
theorem dX9_feed_7 : decode cX9_feed 7 = .ok (.sipush 400, 3) := by decide +kernel
theorem dX9_feed_10 : decode cX9_feed 10 = .ok (.if_icmp .le 5, 3) := by decide +kernel
theorem dX9_feed_13 : decode cX9_feed 13 = .ok (.iconst (-1), 1) := by decide +kernel
theorem dX9_feed_14 : decode cX9_feed 14 = .ok (.ireturn, 1) := by decide +kernel
theorem dX9_feed_15 : decode cX9_feed 15 = .ok (.aload_n 0, 1) := by decide +kernel
theorem dX9_feed_16 : decode cX9_feed 16 = .ok (.iload_n 1, 1) := by decide +kernel
theorem dX9_feed_17 : decode cX9_feed 17 = .ok (.invokevirtual 145, 3) := by decide +kernel
theorem dX9_feed_20 : decode cX9_feed 20 = .ok (.aload_n 0, 1) := by decide +kernel
theorem dX9_feed_21 : decode cX9_feed 21 = .ok (.iload_n 2, 1) := by decide +kernel
theorem dX9_feed_22 : decode cX9_feed 22 = .ok (.invokevirtual 145, 3) := by decide +kernel
theorem dX9_feed_25 : decode cX9_feed 25 = .ok (.aload_n 0, 1) := by decide +kernel
theorem dX9_feed_26 : decode cX9_feed 26 = .ok (.iload_n 3, 1) := by decide +kernel
theorem dX9_feed_27 : decode cX9_feed 27 = .ok (.invokevirtual 145, 3) := by decide +kernel
theorem dX9_feed_30 : decode cX9_feed 30 = .ok (.aload_n 0, 1) := by decide +kernel
theorem dX9_feed_31 : decode cX9_feed 31 = .ok (.iload 4, 2) := by decide +kernel
theorem dX9_feed_33 : decode cX9_feed 33 = .ok (.invokevirtual 145, 3) := by decide +kernel
theorem dX9_feed_36 : decode cX9_feed 36 = .ok (.aload_n 0, 1) := by decide +kernel
theorem dX9_feed_37 : decode cX9_feed 37 = .ok (.iload 5, 2) := by decide +kernel
theorem dX9_feed_39 : decode cX9_feed 39 = .ok (.invokevirtual 145, 3) := by decide +kernel
theorem dX9_feed_42 : decode cX9_feed 42 = .ok (.aload_n 0, 1) := by decide +kernel
theorem dX9_feed_43 : decode cX9_feed 43 = .ok (.getfield 13, 3) := by decide +kernel
theorem dX9_feed_46 : decode cX9_feed 46 = .ok (.ireturn, 1) := by decide +kernel
theorem dX9_end_0 : decode cX9_end 0 = .ok (.iload_n 1, 1) := by decide +kernel
theorem dX9_end_1 : decode cX9_end 1 = .ok (.ifCond .lt 11, 3) := by decide +kernel
theorem dX9_end_4 : decode cX9_end 4 = .ok (.iload_n 1, 1) := by decide +kernel
theorem dX9_end_5 : decode cX9_end 5 = .ok (.aload_n 0, 1) := by decide +kernel
theorem dX9_end_6 : decode cX9_end 6 = .ok (.getfield 13, 3) := by decide +kernel
theorem dX9_end_9 : decode cX9_end 9 = .ok (.if_icmp .le 5, 3) := by decide +kernel
theorem dX9_end_12 : decode cX9_end 12 = .ok (.iconst 0, 1) := by decide +kernel
theorem dX9_end_13 : decode cX9_end 13 = .ok (.ireturn, 1) := by decide +kernel
theorem dX9_end_14 : decode cX9_end 14 = .ok (.aload_n 0, 1) := by decide +kernel
theorem dX9_end_15 : decode cX9_end 15 = .ok (.iload_n 1, 1) := by decide +kernel
theorem dX9_end_16 : decode cX9_end 16 = .ok (.putfield 13, 3) := by decide +kernel
theorem dX9_end_19 : decode cX9_end 19 = .ok (.iconst 1, 1) := by decide +kernel
theorem dX9_end_20 : decode cX9_end 20 = .ok (.ireturn, 1) := by decide +kernel
theorem dX9_today_0 : decode cX9_today 0 = .ok (.iload_n 1, 1) := by decide +kernel
theorem dX9_today_1 : decode cX9_today 1 = .ok (.aload_n 0, 1) := by decide +kernel
theorem dX9_today_2 : decode cX9_today 2 = .ok (.getfield 17, 3) := by decide +kernel
theorem dX9_today_5 : decode cX9_today 5 = .ok (.if_icmp .lt 10, 3) := by decide +kernel
theorem dX9_today_8 : decode cX9_today 8 = .ok (.iload_n 1, 1) := by decide +kernel
theorem dX9_today_9 : decode cX9_today 9 = .ok (.sipush 30000, 3) := by decide +kernel
theorem dX9_today_12 : decode cX9_today 12 = .ok (.if_icmp .le 5, 3) := by decide +kernel
theorem dX9_today_15 : decode cX9_today 15 = .ok (.iconst 0, 1) := by decide +kernel
theorem dX9_today_16 : decode cX9_today 16 = .ok (.ireturn, 1) := by decide +kernel
theorem dX9_today_17 : decode cX9_today 17 = .ok (.aload_n 0, 1) := by decide +kernel
theorem dX9_today_18 : decode cX9_today 18 = .ok (.iload_n 1, 1) := by decide +kernel
theorem dX9_today_19 : decode cX9_today 19 = .ok (.putfield 17, 3) := by decide +kernel
theorem dX9_today_22 : decode cX9_today 22 = .ok (.iconst 1, 1) := by decide +kernel
theorem dX9_today_23 : decode cX9_today 23 = .ok (.ireturn, 1) := by decide +kernel
theorem dX9_step_0 : decode cX9_step 0 = .ok (.iload_n 1, 1) := by decide +kernel
theorem dX9_step_1 : decode cX9_step 1 = .ok (.iconst 0, 1) := by decide +kernel
theorem dX9_step_2 : decode cX9_step 2 = .ok (.iconst 3, 1) := by decide +kernel
theorem dX9_step_3 : decode cX9_step 3 = .ok (.invokestatic 151, 3) := by decide +kernel
theorem dX9_step_6 : decode cX9_step 6 = .ok (.ifCond .eq 25, 3) := by decide +kernel
theorem dX9_step_9 : decode cX9_step 9 = .ok (.iload_n 2, 1) := by decide +kernel
theorem dX9_step_10 : decode cX9_step 10 = .ok (.iconst 0, 1) := by decide +kernel
theorem dX9_step_11 : decode cX9_step 11 = .ok (.sipush 300, 3) := by decide +kernel
theorem dX9_step_14 : decode cX9_step 14 = .ok (.invokestatic 151, 3) := by decide +kernel
theorem dX9_step_17 : decode cX9_step 17 = .ok (.ifCond .eq 14, 3) := by decide +kernel
theorem dX9_step_20 : decode cX9_step 20 = .ok (.iload_n 3, 1) := by decide +kernel
theorem dX9_step_21 : decode cX9_step 21 = .ok (.iconst 0, 1) := by decide +kernel
theorem dX9_step_22 : decode cX9_step 22 = .ok (.ldc_w 291, 3) := by decide +kernel
theorem dX9_step_25 : decode cX9_step 25 = .ok (.invokestatic 151, 3) := by decide +kernel
theorem dX9_step_28 : decode cX9_step 28 = .ok (.ifCond .ne 5, 3) := by decide +kernel
theorem dX9_step_31 : decode cX9_step 31 = .ok (.iconst 0, 1) := by decide +kernel
theorem dX9_step_32 : decode cX9_step 32 = .ok (.ireturn, 1) := by decide +kernel
theorem dX9_step_33 : decode cX9_step 33 = .ok (.aload_n 0, 1) := by decide +kernel
theorem dX9_step_34 : decode cX9_step 34 = .ok (.getfield 35, 3) := by decide +kernel
theorem dX9_step_37 : decode cX9_step 37 = .ok (.iconst 2, 1) := by decide +kernel
theorem dX9_step_38 : decode cX9_step 38 = .ok (.iload_n 1, 1) := by decide +kernel
theorem dX9_step_39 : decode cX9_step 39 = .ok (.imul, 1) := by decide +kernel
theorem dX9_step_40 : decode cX9_step 40 = .ok (.iload_n 2, 1) := by decide +kernel
theorem dX9_step_41 : decode cX9_step 41 = .ok (.iastore, 1) := by decide +kernel
theorem dX9_step_42 : decode cX9_step 42 = .ok (.aload_n 0, 1) := by decide +kernel
theorem dX9_step_43 : decode cX9_step 43 = .ok (.getfield 35, 3) := by decide +kernel
theorem dX9_step_46 : decode cX9_step 46 = .ok (.iconst 2, 1) := by decide +kernel
theorem dX9_step_47 : decode cX9_step 47 = .ok (.iload_n 1, 1) := by decide +kernel
theorem dX9_step_48 : decode cX9_step 48 = .ok (.imul, 1) := by decide +kernel
theorem dX9_step_49 : decode cX9_step 49 = .ok (.iconst 1, 1) := by decide +kernel
theorem dX9_step_50 : decode cX9_step 50 = .ok (.iadd, 1) := by decide +kernel
theorem dX9_step_51 : decode cX9_step 51 = .ok (.iload_n 3, 1) := by decide +kernel
theorem dX9_step_52 : decode cX9_step 52 = .ok (.iastore, 1) := by decide +kernel
theorem dX9_step_53 : decode cX9_step 53 = .ok (.iconst 1, 1) := by decide +kernel
theorem dX9_step_54 : decode cX9_step 54 = .ok (.ireturn, 1) := by decide +kernel
theorem dX9_pollen_0 : decode cX9_pollen 0 = .ok (.aload_n 0, 1) := by decide +kernel
theorem dX9_pollen_1 : decode cX9_pollen 1 = .ok (.iload_n 1, 1) := by decide +kernel
theorem dX9_pollen_2 : decode cX9_pollen 2 = .ok (.invokevirtual 160, 3) := by decide +kernel
theorem dX9_pollen_5 : decode cX9_pollen 5 = .ok (.ifCond .eq 30, 3) := by decide +kernel
theorem dX9_pollen_8 : decode cX9_pollen 8 = .ok (.iload_n 2, 1) := by decide +kernel
theorem dX9_pollen_9 : decode cX9_pollen 9 = .ok (.iconst 0, 1) := by decide +kernel
theorem dX9_pollen_10 : decode cX9_pollen 10 = .ok (.iconst 4, 1) := by decide +kernel
theorem dX9_pollen_11 : decode cX9_pollen 11 = .ok (.invokestatic 151, 3) := by decide +kernel
theorem dX9_pollen_14 : decode cX9_pollen 14 = .ok (.ifCond .eq 21, 3) := by decide +kernel
theorem dX9_pollen_17 : decode cX9_pollen 17 = .ok (.iload_n 3, 1) := by decide +kernel
theorem dX9_pollen_18 : decode cX9_pollen 18 = .ok (.ifCond .lt 17, 3) := by decide +kernel
theorem dX9_pollen_21 : decode cX9_pollen 21 = .ok (.iload_n 3, 1) := by decide +kernel
theorem dX9_pollen_22 : decode cX9_pollen 22 = .ok (.iload 4, 2) := by decide +kernel
theorem dX9_pollen_24 : decode cX9_pollen 24 = .ok (.if_icmp .gt 11, 3) := by decide +kernel
theorem dX9_pollen_27 : decode cX9_pollen 27 = .ok (.iload 4, 2) := by decide +kernel
theorem dX9_pollen_29 : decode cX9_pollen 29 = .ok (.sipush 1000, 3) := by decide +kernel
theorem dX9_pollen_32 : decode cX9_pollen 32 = .ok (.if_icmp .le 5, 3) := by decide +kernel
theorem dX9_pollen_35 : decode cX9_pollen 35 = .ok (.iconst 0, 1) := by decide +kernel
theorem dX9_pollen_36 : decode cX9_pollen 36 = .ok (.ireturn, 1) := by decide +kernel
theorem dX9_pollen_37 : decode cX9_pollen 37 = .ok (.iload_n 3, 1) := by decide +kernel
theorem dX9_pollen_38 : decode cX9_pollen 38 = .ok (.istore 5, 2) := by decide +kernel
theorem dX9_pollen_40 : decode cX9_pollen 40 = .ok (.iload 4, 2) := by decide +kernel
theorem dX9_pollen_42 : decode cX9_pollen 42 = .ok (.istore 6, 2) := by decide +kernel
theorem dX9_pollen_44 : decode cX9_pollen 44 = .ok (.iconst 0, 1) := by decide +kernel
theorem dX9_pollen_45 : decode cX9_pollen 45 = .ok (.istore 7, 2) := by decide +kernel
theorem dX9_pollen_47 : decode cX9_pollen 47 = .ok (.iload 7, 2) := by decide +kernel
theorem dX9_pollen_49 : decode cX9_pollen 49 = .ok (.iconst 5, 1) := by decide +kernel
theorem dX9_pollen_50 : decode cX9_pollen 50 = .ok (.if_icmp .ge 61, 3) := by decide +kernel
theorem dX9_pollen_53 : decode cX9_pollen 53 = .ok (.iload 5, 2) := by decide +kernel
theorem dX9_pollen_55 : decode cX9_pollen 55 = .ok (.iload 7, 2) := by decide +kernel
theorem dX9_pollen_57 : decode cX9_pollen 57 = .ok (.iload_n 2, 1) := by decide +kernel
theorem dX9_pollen_58 : decode cX9_pollen 58 = .ok (.if_icmp .ne 7, 3) := by decide +kernel
theorem dX9_pollen_61 : decode cX9_pollen 61 = .ok (.iconst 0, 1) := by decide +kernel
theorem dX9_pollen_62 : decode cX9_pollen 62 = .ok (.goto 14, 3) := by decide +kernel
theorem dX9_pollen_65 : decode cX9_pollen 65 = .ok (.aload_n 0, 1) := by decide +kernel
theorem dX9_pollen_66 : decode cX9_pollen 66 = .ok (.getfield 26, 3) := by decide +kernel
theorem dX9_pollen_69 : decode cX9_pollen 69 = .ok (.iconst 5, 1) := by decide +kernel
theorem dX9_pollen_70 : decode cX9_pollen 70 = .ok (.iload_n 1, 1) := by decide +kernel
theorem dX9_pollen_71 : decode cX9_pollen 71 = .ok (.imul, 1) := by decide +kernel
theorem dX9_pollen_72 : decode cX9_pollen 72 = .ok (.iload 7, 2) := by decide +kernel
theorem dX9_pollen_74 : decode cX9_pollen 74 = .ok (.iadd, 1) := by decide +kernel
theorem dX9_pollen_75 : decode cX9_pollen 75 = .ok (.iaload, 1) := by decide +kernel
theorem dX9_pollen_76 : decode cX9_pollen 76 = .ok (.iadd, 1) := by decide +kernel
theorem dX9_pollen_77 : decode cX9_pollen 77 = .ok (.istore 5, 2) := by decide +kernel
theorem dX9_pollen_79 : decode cX9_pollen 79 = .ok (.iload 6, 2) := by decide +kernel
theorem dX9_pollen_81 : decode cX9_pollen 81 = .ok (.iload 7, 2) := by decide +kernel
theorem dX9_pollen_83 : decode cX9_pollen 83 = .ok (.iload_n 2, 1) := by decide +kernel
theorem dX9_pollen_84 : decode cX9_pollen 84 = .ok (.if_icmp .ne 7, 3) := by decide +kernel
theorem dX9_pollen_87 : decode cX9_pollen 87 = .ok (.iconst 0, 1) := by decide +kernel
theorem dX9_pollen_88 : decode cX9_pollen 88 = .ok (.goto 14, 3) := by decide +kernel
theorem dX9_pollen_91 : decode cX9_pollen 91 = .ok (.aload_n 0, 1) := by decide +kernel
theorem dX9_pollen_92 : decode cX9_pollen 92 = .ok (.getfield 29, 3) := by decide +kernel
theorem dX9_pollen_95 : decode cX9_pollen 95 = .ok (.iconst 5, 1) := by decide +kernel
theorem dX9_pollen_96 : decode cX9_pollen 96 = .ok (.iload_n 1, 1) := by decide +kernel
theorem dX9_pollen_97 : decode cX9_pollen 97 = .ok (.imul, 1) := by decide +kernel
theorem dX9_pollen_98 : decode cX9_pollen 98 = .ok (.iload 7, 2) := by decide +kernel
theorem dX9_pollen_100 : decode cX9_pollen 100 = .ok (.iadd, 1) := by decide +kernel
theorem dX9_pollen_101 : decode cX9_pollen 101 = .ok (.iaload, 1) := by decide +kernel
theorem dX9_pollen_102 : decode cX9_pollen 102 = .ok (.iadd, 1) := by decide +kernel
theorem dX9_pollen_103 : decode cX9_pollen 103 = .ok (.istore 6, 2) := by decide +kernel
theorem dX9_pollen_105 : decode cX9_pollen 105 = .ok (.iinc 7 1, 3) := by decide +kernel
theorem dX9_pollen_108 : decode cX9_pollen 108 = .ok (.goto (-61), 3) := by decide +kernel
theorem dX9_pollen_111 : decode cX9_pollen 111 = .ok (.iload 5, 2) := by decide +kernel
theorem dX9_pollen_113 : decode cX9_pollen 113 = .ok (.sipush 1000, 3) := by decide +kernel
theorem dX9_pollen_116 : decode cX9_pollen 116 = .ok (.if_icmp .gt 11, 3) := by decide +kernel
theorem dX9_pollen_119 : decode cX9_pollen 119 = .ok (.iload 6, 2) := by decide +kernel
theorem dX9_pollen_121 : decode cX9_pollen 121 = .ok (.sipush 1000, 3) := by decide +kernel
theorem dX9_pollen_124 : decode cX9_pollen 124 = .ok (.if_icmp .ge 5, 3) := by decide +kernel
theorem dX9_pollen_127 : decode cX9_pollen 127 = .ok (.iconst 0, 1) := by decide +kernel
theorem dX9_pollen_128 : decode cX9_pollen 128 = .ok (.ireturn, 1) := by decide +kernel
theorem dX9_pollen_129 : decode cX9_pollen 129 = .ok (.aload_n 0, 1) := by decide +kernel
theorem dX9_pollen_130 : decode cX9_pollen 130 = .ok (.getfield 26, 3) := by decide +kernel
theorem dX9_pollen_133 : decode cX9_pollen 133 = .ok (.iconst 5, 1) := by decide +kernel
theorem dX9_pollen_134 : decode cX9_pollen 134 = .ok (.iload_n 1, 1) := by decide +kernel
theorem dX9_pollen_135 : decode cX9_pollen 135 = .ok (.imul, 1) := by decide +kernel
theorem dX9_pollen_136 : decode cX9_pollen 136 = .ok (.iload_n 2, 1) := by decide +kernel
theorem dX9_pollen_137 : decode cX9_pollen 137 = .ok (.iadd, 1) := by decide +kernel
theorem dX9_pollen_138 : decode cX9_pollen 138 = .ok (.iload_n 3, 1) := by decide +kernel
theorem dX9_pollen_139 : decode cX9_pollen 139 = .ok (.iastore, 1) := by decide +kernel
theorem dX9_pollen_140 : decode cX9_pollen 140 = .ok (.aload_n 0, 1) := by decide +kernel
theorem dX9_pollen_141 : decode cX9_pollen 141 = .ok (.getfield 29, 3) := by decide +kernel
theorem dX9_pollen_144 : decode cX9_pollen 144 = .ok (.iconst 5, 1) := by decide +kernel
theorem dX9_pollen_145 : decode cX9_pollen 145 = .ok (.iload_n 1, 1) := by decide +kernel
theorem dX9_pollen_146 : decode cX9_pollen 146 = .ok (.imul, 1) := by decide +kernel
theorem dX9_pollen_147 : decode cX9_pollen 147 = .ok (.iload_n 2, 1) := by decide +kernel
theorem dX9_pollen_148 : decode cX9_pollen 148 = .ok (.iadd, 1) := by decide +kernel
theorem dX9_pollen_149 : decode cX9_pollen 149 = .ok (.iload 4, 2) := by decide +kernel
theorem dX9_pollen_151 : decode cX9_pollen 151 = .ok (.iastore, 1) := by decide +kernel
theorem dX9_pollen_152 : decode cX9_pollen 152 = .ok (.iconst 1, 1) := by decide +kernel
theorem dX9_pollen_153 : decode cX9_pollen 153 = .ok (.ireturn, 1) := by decide +kernel
theorem dX9_test_0 : decode cX9_test 0 = .ok (.aload_n 0, 1) := by decide +kernel
theorem dX9_test_1 : decode cX9_test 1 = .ok (.iload_n 1, 1) := by decide +kernel
theorem dX9_test_2 : decode cX9_test 2 = .ok (.invokevirtual 160, 3) := by decide +kernel
theorem dX9_test_5 : decode cX9_test 5 = .ok (.ifCond .eq 15, 3) := by decide +kernel
theorem dX9_test_8 : decode cX9_test 8 = .ok (.iload_n 2, 1) := by decide +kernel
theorem dX9_test_9 : decode cX9_test 9 = .ok (.bipush 100, 2) := by decide +kernel
theorem dX9_test_11 : decode cX9_test 11 = .ok (.sipush 300, 3) := by decide +kernel
theorem dX9_test_14 : decode cX9_test 14 = .ok (.invokestatic 151, 3) := by decide +kernel
theorem dX9_test_17 : decode cX9_test 17 = .ok (.ifCond .ne 6, 3) := by decide +kernel
theorem dX9_test_20 : decode cX9_test 20 = .ok (.ldc 164, 2) := by decide +kernel
theorem dX9_test_22 : decode cX9_test 22 = .ok (.ireturn, 1) := by decide +kernel
theorem dX9_test_23 : decode cX9_test 23 = .ok (.aload_n 0, 1) := by decide +kernel
theorem dX9_test_24 : decode cX9_test 24 = .ok (.getfield 23, 3) := by decide +kernel
theorem dX9_test_27 : decode cX9_test 27 = .ok (.bipush 7, 2) := by decide +kernel
theorem dX9_test_29 : decode cX9_test 29 = .ok (.iload_n 1, 1) := by decide +kernel
theorem dX9_test_30 : decode cX9_test 30 = .ok (.imul, 1) := by decide +kernel
theorem dX9_test_31 : decode cX9_test 31 = .ok (.bipush 6, 2) := by decide +kernel
theorem dX9_test_33 : decode cX9_test 33 = .ok (.iadd, 1) := by decide +kernel
theorem dX9_test_34 : decode cX9_test 34 = .ok (.iaload, 1) := by decide +kernel
theorem dX9_test_35 : decode cX9_test 35 = .ok (.istore_n 3, 1) := by decide +kernel
theorem dX9_test_36 : decode cX9_test 36 = .ok (.aload_n 0, 1) := by decide +kernel
theorem dX9_test_37 : decode cX9_test 37 = .ok (.getfield 23, 3) := by decide +kernel
theorem dX9_test_40 : decode cX9_test 40 = .ok (.bipush 7, 2) := by decide +kernel
theorem dX9_test_42 : decode cX9_test 42 = .ok (.iload_n 1, 1) := by decide +kernel
theorem dX9_test_43 : decode cX9_test 43 = .ok (.imul, 1) := by decide +kernel
theorem dX9_test_44 : decode cX9_test 44 = .ok (.iconst 2, 1) := by decide +kernel
theorem dX9_test_45 : decode cX9_test 45 = .ok (.iadd, 1) := by decide +kernel
theorem dX9_test_46 : decode cX9_test 46 = .ok (.iload_n 2, 1) := by decide +kernel
theorem dX9_test_47 : decode cX9_test 47 = .ok (.iastore, 1) := by decide +kernel
theorem dX9_test_48 : decode cX9_test 48 = .ok (.aload_n 0, 1) := by decide +kernel
theorem dX9_test_49 : decode cX9_test 49 = .ok (.getfield 23, 3) := by decide +kernel
theorem dX9_test_52 : decode cX9_test 52 = .ok (.bipush 7, 2) := by decide +kernel
theorem dX9_test_54 : decode cX9_test 54 = .ok (.iload_n 1, 1) := by decide +kernel
theorem dX9_test_55 : decode cX9_test 55 = .ok (.imul, 1) := by decide +kernel
theorem dX9_test_56 : decode cX9_test 56 = .ok (.bipush 6, 2) := by decide +kernel
theorem dX9_test_58 : decode cX9_test 58 = .ok (.iadd, 1) := by decide +kernel
theorem dX9_test_59 : decode cX9_test 59 = .ok (.aload_n 0, 1) := by decide +kernel
theorem dX9_test_60 : decode cX9_test 60 = .ok (.iload_n 1, 1) := by decide +kernel
theorem dX9_test_61 : decode cX9_test 61 = .ok (.iload_n 2, 1) := by decide +kernel
theorem dX9_test_62 : decode cX9_test 62 = .ok (.invokevirtual 156, 3) := by decide +kernel
theorem dX9_test_65 : decode cX9_test 65 = .ok (.iastore, 1) := by decide +kernel
theorem dX9_test_66 : decode cX9_test 66 = .ok (.aload_n 0, 1) := by decide +kernel
theorem dX9_test_67 : decode cX9_test 67 = .ok (.getfield 23, 3) := by decide +kernel
theorem dX9_test_70 : decode cX9_test 70 = .ok (.bipush 7, 2) := by decide +kernel
theorem dX9_test_72 : decode cX9_test 72 = .ok (.iload_n 1, 1) := by decide +kernel
theorem dX9_test_73 : decode cX9_test 73 = .ok (.imul, 1) := by decide +kernel
theorem dX9_test_74 : decode cX9_test 74 = .ok (.bipush 6, 2) := by decide +kernel
theorem dX9_test_76 : decode cX9_test 76 = .ok (.iadd, 1) := by decide +kernel
theorem dX9_test_77 : decode cX9_test 77 = .ok (.iaload, 1) := by decide +kernel
theorem dX9_test_78 : decode cX9_test 78 = .ok (.iload_n 3, 1) := by decide +kernel
theorem dX9_test_79 : decode cX9_test 79 = .ok (.isub, 1) := by decide +kernel
theorem dX9_test_80 : decode cX9_test 80 = .ok (.ireturn, 1) := by decide +kernel
theorem dX9_tank_0 : decode cX9_tank 0 = .ok (.iload_n 1, 1) := by decide +kernel
theorem dX9_tank_1 : decode cX9_tank 1 = .ok (.invokestatic 165, 3) := by decide +kernel
theorem dX9_tank_4 : decode cX9_tank 4 = .ok (.ifCond .eq 33, 3) := by decide +kernel
theorem dX9_tank_7 : decode cX9_tank 7 = .ok (.iload_n 2, 1) := by decide +kernel
theorem dX9_tank_8 : decode cX9_tank 8 = .ok (.iconst 0, 1) := by decide +kernel
theorem dX9_tank_9 : decode cX9_tank 9 = .ok (.ldc 168, 2) := by decide +kernel
theorem dX9_tank_11 : decode cX9_tank 11 = .ok (.invokestatic 151, 3) := by decide +kernel
theorem dX9_tank_14 : decode cX9_tank 14 = .ok (.ifCond .eq 23, 3) := by decide +kernel
theorem dX9_tank_17 : decode cX9_tank 17 = .ok (.iload_n 3, 1) := by decide +kernel
theorem dX9_tank_18 : decode cX9_tank 18 = .ok (.iconst 0, 1) := by decide +kernel
theorem dX9_tank_19 : decode cX9_tank 19 = .ok (.sipush 10000, 3) := by decide +kernel
theorem dX9_tank_22 : decode cX9_tank 22 = .ok (.invokestatic 151, 3) := by decide +kernel
theorem dX9_tank_25 : decode cX9_tank 25 = .ok (.ifCond .eq 12, 3) := by decide +kernel
theorem dX9_tank_28 : decode cX9_tank 28 = .ok (.aload_n 0, 1) := by decide +kernel
theorem dX9_tank_29 : decode cX9_tank 29 = .ok (.iload_n 1, 1) := by decide +kernel
theorem dX9_tank_30 : decode cX9_tank 30 = .ok (.invokevirtual 169, 3) := by decide +kernel
theorem dX9_tank_33 : decode cX9_tank 33 = .ok (.iload_n 2, 1) := by decide +kernel
theorem dX9_tank_34 : decode cX9_tank 34 = .ok (.if_icmp .le 5, 3) := by decide +kernel
theorem dX9_tank_37 : decode cX9_tank 37 = .ok (.iconst 0, 1) := by decide +kernel
theorem dX9_tank_38 : decode cX9_tank 38 = .ok (.ireturn, 1) := by decide +kernel
theorem dX9_tank_39 : decode cX9_tank 39 = .ok (.aload_n 0, 1) := by decide +kernel
theorem dX9_tank_40 : decode cX9_tank 40 = .ok (.getfield 44, 3) := by decide +kernel
theorem dX9_tank_43 : decode cX9_tank 43 = .ok (.iload_n 1, 1) := by decide +kernel
theorem dX9_tank_44 : decode cX9_tank 44 = .ok (.iload_n 2, 1) := by decide +kernel
theorem dX9_tank_45 : decode cX9_tank 45 = .ok (.iastore, 1) := by decide +kernel
theorem dX9_tank_46 : decode cX9_tank 46 = .ok (.aload_n 0, 1) := by decide +kernel
theorem dX9_tank_47 : decode cX9_tank 47 = .ok (.getfield 47, 3) := by decide +kernel
theorem dX9_tank_50 : decode cX9_tank 50 = .ok (.iload_n 1, 1) := by decide +kernel
theorem dX9_tank_51 : decode cX9_tank 51 = .ok (.iload_n 3, 1) := by decide +kernel
theorem dX9_tank_52 : decode cX9_tank 52 = .ok (.iastore, 1) := by decide +kernel
theorem dX9_tank_53 : decode cX9_tank 53 = .ok (.iconst 1, 1) := by decide +kernel
theorem dX9_tank_54 : decode cX9_tank 54 = .ok (.ireturn, 1) := by decide +kernel
theorem dX9_warm_0 : decode cX9_warm 0 = .ok (.iload_n 1, 1) := by decide +kernel
theorem dX9_warm_1 : decode cX9_warm 1 = .ok (.invokestatic 165, 3) := by decide +kernel
theorem dX9_warm_4 : decode cX9_warm 4 = .ok (.ifCond .eq 22, 3) := by decide +kernel
theorem dX9_warm_7 : decode cX9_warm 7 = .ok (.aload_n 0, 1) := by decide +kernel
theorem dX9_warm_8 : decode cX9_warm 8 = .ok (.iload_n 1, 1) := by decide +kernel
theorem dX9_warm_9 : decode cX9_warm 9 = .ok (.invokevirtual 169, 3) := by decide +kernel
theorem dX9_warm_12 : decode cX9_warm 12 = .ok (.ifCond .eq 14, 3) := by decide +kernel
theorem dX9_warm_15 : decode cX9_warm 15 = .ok (.iload_n 2, 1) := by decide +kernel
theorem dX9_warm_16 : decode cX9_warm 16 = .ok (.iconst 1, 1) := by decide +kernel
theorem dX9_warm_17 : decode cX9_warm 17 = .ok (.sipush 1000, 3) := by decide +kernel
theorem dX9_warm_20 : decode cX9_warm 20 = .ok (.invokestatic 151, 3) := by decide +kernel
theorem dX9_warm_23 : decode cX9_warm 23 = .ok (.ifCond .ne 5, 3) := by decide +kernel
theorem dX9_warm_26 : decode cX9_warm 26 = .ok (.iconst (-1), 1) := by decide +kernel
theorem dX9_warm_27 : decode cX9_warm 27 = .ok (.ireturn, 1) := by decide +kernel
theorem dX9_warm_28 : decode cX9_warm 28 = .ok (.aload_n 0, 1) := by decide +kernel
theorem dX9_warm_29 : decode cX9_warm 29 = .ok (.getfield 41, 3) := by decide +kernel
theorem dX9_warm_32 : decode cX9_warm 32 = .ok (.iload_n 1, 1) := by decide +kernel
theorem dX9_warm_33 : decode cX9_warm 33 = .ok (.dup2, 1) := by decide +kernel
theorem dX9_warm_34 : decode cX9_warm 34 = .ok (.iaload, 1) := by decide +kernel
theorem dX9_warm_35 : decode cX9_warm 35 = .ok (.iload_n 2, 1) := by decide +kernel
theorem dX9_warm_36 : decode cX9_warm 36 = .ok (.iadd, 1) := by decide +kernel
theorem dX9_warm_37 : decode cX9_warm 37 = .ok (.iastore, 1) := by decide +kernel
theorem dX9_warm_38 : decode cX9_warm 38 = .ok (.aload_n 0, 1) := by decide +kernel
theorem dX9_warm_39 : decode cX9_warm 39 = .ok (.getfield 41, 3) := by decide +kernel
theorem dX9_warm_42 : decode cX9_warm 42 = .ok (.iload_n 1, 1) := by decide +kernel
theorem dX9_warm_43 : decode cX9_warm 43 = .ok (.iaload, 1) := by decide +kernel
theorem dX9_warm_44 : decode cX9_warm 44 = .ok (.ireturn, 1) := by decide +kernel
theorem dX9_pour_0 : decode cX9_pour 0 = .ok (.aload_n 0, 1) := by decide +kernel
theorem dX9_pour_1 : decode cX9_pour 1 = .ok (.iload_n 1, 1) := by decide +kernel
theorem dX9_pour_2 : decode cX9_pour 2 = .ok (.invokevirtual 160, 3) := by decide +kernel
theorem dX9_pour_5 : decode cX9_pour 5 = .ok (.ifCond .eq 10, 3) := by decide +kernel
theorem dX9_pour_8 : decode cX9_pour 8 = .ok (.iload_n 2, 1) := by decide +kernel
theorem dX9_pour_9 : decode cX9_pour 9 = .ok (.invokestatic 165, 3) := by decide +kernel
theorem dX9_pour_12 : decode cX9_pour 12 = .ok (.ifCond .ne 5, 3) := by decide +kernel
theorem dX9_pour_15 : decode cX9_pour 15 = .ok (.iconst (-1), 1) := by decide +kernel
theorem dX9_pour_16 : decode cX9_pour 16 = .ok (.ireturn, 1) := by decide +kernel
theorem dX9_pour_17 : decode cX9_pour 17 = .ok (.iload_n 3, 1) := by decide +kernel
theorem dX9_pour_18 : decode cX9_pour 18 = .ok (.iconst 1, 1) := by decide +kernel
theorem dX9_pour_19 : decode cX9_pour 19 = .ok (.if_icmp .lt 34, 3) := by decide +kernel
theorem dX9_pour_22 : decode cX9_pour 22 = .ok (.iload_n 3, 1) := by decide +kernel
theorem dX9_pour_23 : decode cX9_pour 23 = .ok (.aload_n 0, 1) := by decide +kernel
theorem dX9_pour_24 : decode cX9_pour 24 = .ok (.getfield 23, 3) := by decide +kernel
theorem dX9_pour_27 : decode cX9_pour 27 = .ok (.bipush 7, 2) := by decide +kernel
theorem dX9_pour_29 : decode cX9_pour 29 = .ok (.iload_n 1, 1) := by decide +kernel
theorem dX9_pour_30 : decode cX9_pour 30 = .ok (.imul, 1) := by decide +kernel
theorem dX9_pour_31 : decode cX9_pour 31 = .ok (.iconst 5, 1) := by decide +kernel
theorem dX9_pour_32 : decode cX9_pour 32 = .ok (.iadd, 1) := by decide +kernel
theorem dX9_pour_33 : decode cX9_pour 33 = .ok (.iaload, 1) := by decide +kernel
theorem dX9_pour_34 : decode cX9_pour 34 = .ok (.if_icmp .gt 19, 3) := by decide +kernel
theorem dX9_pour_37 : decode cX9_pour 37 = .ok (.iload_n 3, 1) := by decide +kernel
theorem dX9_pour_38 : decode cX9_pour 38 = .ok (.aload_n 0, 1) := by decide +kernel
theorem dX9_pour_39 : decode cX9_pour 39 = .ok (.getfield 44, 3) := by decide +kernel
theorem dX9_pour_42 : decode cX9_pour 42 = .ok (.iload_n 2, 1) := by decide +kernel
theorem dX9_pour_43 : decode cX9_pour 43 = .ok (.iaload, 1) := by decide +kernel
theorem dX9_pour_44 : decode cX9_pour 44 = .ok (.aload_n 0, 1) := by decide +kernel
theorem dX9_pour_45 : decode cX9_pour 45 = .ok (.iload_n 2, 1) := by decide +kernel
theorem dX9_pour_46 : decode cX9_pour 46 = .ok (.invokevirtual 169, 3) := by decide +kernel
theorem dX9_pour_49 : decode cX9_pour 49 = .ok (.isub, 1) := by decide +kernel
theorem dX9_pour_50 : decode cX9_pour 50 = .ok (.if_icmp .le 6, 3) := by decide +kernel
theorem dX9_pour_53 : decode cX9_pour 53 = .ok (.bipush (-2), 2) := by decide +kernel
theorem dX9_pour_55 : decode cX9_pour 55 = .ok (.ireturn, 1) := by decide +kernel
theorem dX9_pour_56 : decode cX9_pour 56 = .ok (.aload_n 0, 1) := by decide +kernel
theorem dX9_pour_57 : decode cX9_pour 57 = .ok (.getfield 38, 3) := by decide +kernel
theorem dX9_pour_60 : decode cX9_pour 60 = .ok (.bipush 40, 2) := by decide +kernel
theorem dX9_pour_62 : decode cX9_pour 62 = .ok (.iload_n 2, 1) := by decide +kernel
theorem dX9_pour_63 : decode cX9_pour 63 = .ok (.imul, 1) := by decide +kernel
theorem dX9_pour_64 : decode cX9_pour 64 = .ok (.iload_n 1, 1) := by decide +kernel
theorem dX9_pour_65 : decode cX9_pour 65 = .ok (.iadd, 1) := by decide +kernel
theorem dX9_pour_66 : decode cX9_pour 66 = .ok (.dup2, 1) := by decide +kernel
theorem dX9_pour_67 : decode cX9_pour 67 = .ok (.iaload, 1) := by decide +kernel
theorem dX9_pour_68 : decode cX9_pour 68 = .ok (.iload_n 3, 1) := by decide +kernel
theorem dX9_pour_69 : decode cX9_pour 69 = .ok (.iadd, 1) := by decide +kernel
theorem dX9_pour_70 : decode cX9_pour 70 = .ok (.iastore, 1) := by decide +kernel
theorem dX9_pour_71 : decode cX9_pour 71 = .ok (.aload_n 0, 1) := by decide +kernel
theorem dX9_pour_72 : decode cX9_pour 72 = .ok (.getfield 23, 3) := by decide +kernel
theorem dX9_pour_75 : decode cX9_pour 75 = .ok (.bipush 7, 2) := by decide +kernel
theorem dX9_pour_77 : decode cX9_pour 77 = .ok (.iload_n 1, 1) := by decide +kernel
theorem dX9_pour_78 : decode cX9_pour 78 = .ok (.imul, 1) := by decide +kernel
theorem dX9_pour_79 : decode cX9_pour 79 = .ok (.iconst 5, 1) := by decide +kernel
theorem dX9_pour_80 : decode cX9_pour 80 = .ok (.iadd, 1) := by decide +kernel
theorem dX9_pour_81 : decode cX9_pour 81 = .ok (.dup2, 1) := by decide +kernel
theorem dX9_pour_82 : decode cX9_pour 82 = .ok (.iaload, 1) := by decide +kernel
theorem dX9_pour_83 : decode cX9_pour 83 = .ok (.iload_n 3, 1) := by decide +kernel
theorem dX9_pour_84 : decode cX9_pour 84 = .ok (.isub, 1) := by decide +kernel
theorem dX9_pour_85 : decode cX9_pour 85 = .ok (.iastore, 1) := by decide +kernel
theorem dX9_pour_86 : decode cX9_pour 86 = .ok (.aload_n 0, 1) := by decide +kernel
theorem dX9_pour_87 : decode cX9_pour 87 = .ok (.getfield 23, 3) := by decide +kernel
theorem dX9_pour_90 : decode cX9_pour 90 = .ok (.bipush 7, 2) := by decide +kernel
theorem dX9_pour_92 : decode cX9_pour 92 = .ok (.iload_n 1, 1) := by decide +kernel
theorem dX9_pour_93 : decode cX9_pour 93 = .ok (.imul, 1) := by decide +kernel
theorem dX9_pour_94 : decode cX9_pour 94 = .ok (.iconst 5, 1) := by decide +kernel
theorem dX9_pour_95 : decode cX9_pour 95 = .ok (.iadd, 1) := by decide +kernel
theorem dX9_pour_96 : decode cX9_pour 96 = .ok (.iaload, 1) := by decide +kernel
theorem dX9_pour_97 : decode cX9_pour 97 = .ok (.ireturn, 1) := by decide +kernel
theorem dX9_draw_0 : decode cX9_draw 0 = .ok (.aload_n 0, 1) := by decide +kernel
theorem dX9_draw_1 : decode cX9_draw 1 = .ok (.iload_n 1, 1) := by decide +kernel
theorem dX9_draw_2 : decode cX9_draw 2 = .ok (.invokevirtual 169, 3) := by decide +kernel
theorem dX9_draw_5 : decode cX9_draw 5 = .ok (.i2l, 1) := by decide +kernel
theorem dX9_draw_6 : decode cX9_draw 6 = .ok (.lstore_n 3, 1) := by decide +kernel
theorem dX9_draw_7 : decode cX9_draw 7 = .ok (.iload_n 2, 1) := by decide +kernel
theorem dX9_draw_8 : decode cX9_draw 8 = .ok (.istore 5, 2) := by decide +kernel
theorem dX9_draw_10 : decode cX9_draw 10 = .ok (.iconst 0, 1) := by decide +kernel
theorem dX9_draw_11 : decode cX9_draw 11 = .ok (.istore 6, 2) := by decide +kernel
theorem dX9_draw_13 : decode cX9_draw 13 = .ok (.iload 6, 2) := by decide +kernel
theorem dX9_draw_15 : decode cX9_draw 15 = .ok (.aload_n 0, 1) := by decide +kernel
theorem dX9_draw_16 : decode cX9_draw 16 = .ok (.getfield 20, 3) := by decide +kernel
theorem dX9_draw_19 : decode cX9_draw 19 = .ok (.if_icmp .ge 62, 3) := by decide +kernel
theorem dX9_draw_22 : decode cX9_draw 22 = .ok (.iload_n 2, 1) := by decide +kernel
theorem dX9_draw_23 : decode cX9_draw 23 = .ok (.i2l, 1) := by decide +kernel
theorem dX9_draw_24 : decode cX9_draw 24 = .ok (.aload_n 0, 1) := by decide +kernel
theorem dX9_draw_25 : decode cX9_draw 25 = .ok (.getfield 38, 3) := by decide +kernel
theorem dX9_draw_28 : decode cX9_draw 28 = .ok (.bipush 40, 2) := by decide +kernel
theorem dX9_draw_30 : decode cX9_draw 30 = .ok (.iload_n 1, 1) := by decide +kernel
theorem dX9_draw_31 : decode cX9_draw 31 = .ok (.imul, 1) := by decide +kernel
theorem dX9_draw_32 : decode cX9_draw 32 = .ok (.iload 6, 2) := by decide +kernel
theorem dX9_draw_34 : decode cX9_draw 34 = .ok (.iadd, 1) := by decide +kernel
theorem dX9_draw_35 : decode cX9_draw 35 = .ok (.iaload, 1) := by decide +kernel
theorem dX9_draw_36 : decode cX9_draw 36 = .ok (.i2l, 1) := by decide +kernel
theorem dX9_draw_37 : decode cX9_draw 37 = .ok (.lmul, 1) := by decide +kernel
theorem dX9_draw_38 : decode cX9_draw 38 = .ok (.lstore 7, 2) := by decide +kernel
theorem dX9_draw_40 : decode cX9_draw 40 = .ok (.aload_n 0, 1) := by decide +kernel
theorem dX9_draw_41 : decode cX9_draw 41 = .ok (.getfield 80, 3) := by decide +kernel
theorem dX9_draw_44 : decode cX9_draw 44 = .ok (.iload 6, 2) := by decide +kernel
theorem dX9_draw_46 : decode cX9_draw 46 = .ok (.lload 7, 2) := by decide +kernel
theorem dX9_draw_48 : decode cX9_draw 48 = .ok (.lload_n 3, 1) := by decide +kernel
theorem dX9_draw_49 : decode cX9_draw 49 = .ok (.ldiv, 1) := by decide +kernel
theorem dX9_draw_50 : decode cX9_draw 50 = .ok (.l2i, 1) := by decide +kernel
theorem dX9_draw_51 : decode cX9_draw 51 = .ok (.iastore, 1) := by decide +kernel
theorem dX9_draw_52 : decode cX9_draw 52 = .ok (.aload_n 0, 1) := by decide +kernel
theorem dX9_draw_53 : decode cX9_draw 53 = .ok (.getfield 83, 3) := by decide +kernel
theorem dX9_draw_56 : decode cX9_draw 56 = .ok (.iload 6, 2) := by decide +kernel
theorem dX9_draw_58 : decode cX9_draw 58 = .ok (.lload 7, 2) := by decide +kernel
theorem dX9_draw_60 : decode cX9_draw 60 = .ok (.lload_n 3, 1) := by decide +kernel
theorem dX9_draw_61 : decode cX9_draw 61 = .ok (.lrem, 1) := by decide +kernel
theorem dX9_draw_62 : decode cX9_draw 62 = .ok (.lastore, 1) := by decide +kernel
theorem dX9_draw_63 : decode cX9_draw 63 = .ok (.iload 5, 2) := by decide +kernel
theorem dX9_draw_65 : decode cX9_draw 65 = .ok (.aload_n 0, 1) := by decide +kernel
theorem dX9_draw_66 : decode cX9_draw 66 = .ok (.getfield 80, 3) := by decide +kernel
theorem dX9_draw_69 : decode cX9_draw 69 = .ok (.iload 6, 2) := by decide +kernel
theorem dX9_draw_71 : decode cX9_draw 71 = .ok (.iaload, 1) := by decide +kernel
theorem dX9_draw_72 : decode cX9_draw 72 = .ok (.isub, 1) := by decide +kernel
theorem dX9_draw_73 : decode cX9_draw 73 = .ok (.istore 5, 2) := by decide +kernel
theorem dX9_draw_75 : decode cX9_draw 75 = .ok (.iinc 6 1, 3) := by decide +kernel
theorem dX9_draw_78 : decode cX9_draw 78 = .ok (.goto (-65), 3) := by decide +kernel
theorem dX9_draw_81 : decode cX9_draw 81 = .ok (.iload 5, 2) := by decide +kernel
theorem dX9_draw_83 : decode cX9_draw 83 = .ok (.ifCond .le 78, 3) := by decide +kernel
theorem dX9_draw_86 : decode cX9_draw 86 = .ok (.iconst 0, 1) := by decide +kernel
theorem dX9_draw_87 : decode cX9_draw 87 = .ok (.istore 6, 2) := by decide +kernel
theorem dX9_draw_89 : decode cX9_draw 89 = .ok (.iconst 1, 1) := by decide +kernel
theorem dX9_draw_90 : decode cX9_draw 90 = .ok (.istore 7, 2) := by decide +kernel
theorem dX9_draw_92 : decode cX9_draw 92 = .ok (.iload 7, 2) := by decide +kernel
theorem dX9_draw_94 : decode cX9_draw 94 = .ok (.aload_n 0, 1) := by decide +kernel
theorem dX9_draw_95 : decode cX9_draw 95 = .ok (.getfield 20, 3) := by decide +kernel
theorem dX9_draw_98 : decode cX9_draw 98 = .ok (.if_icmp .ge 36, 3) := by decide +kernel
theorem dX9_draw_101 : decode cX9_draw 101 = .ok (.aload_n 0, 1) := by decide +kernel
theorem dX9_draw_102 : decode cX9_draw 102 = .ok (.getfield 83, 3) := by decide +kernel
theorem dX9_draw_105 : decode cX9_draw 105 = .ok (.iload 7, 2) := by decide +kernel
theorem dX9_draw_107 : decode cX9_draw 107 = .ok (.laload, 1) := by decide +kernel
theorem dX9_draw_108 : decode cX9_draw 108 = .ok (.aload_n 0, 1) := by decide +kernel
theorem dX9_draw_109 : decode cX9_draw 109 = .ok (.getfield 83, 3) := by decide +kernel
theorem dX9_draw_112 : decode cX9_draw 112 = .ok (.iload 6, 2) := by decide +kernel
theorem dX9_draw_114 : decode cX9_draw 114 = .ok (.laload, 1) := by decide +kernel
theorem dX9_draw_115 : decode cX9_draw 115 = .ok (.lcmp, 1) := by decide +kernel
theorem dX9_draw_116 : decode cX9_draw 116 = .ok (.ifCond .le 8, 3) := by decide +kernel
theorem dX9_draw_119 : decode cX9_draw 119 = .ok (.iload 7, 2) := by decide +kernel
theorem dX9_draw_121 : decode cX9_draw 121 = .ok (.goto 5, 3) := by decide +kernel
theorem dX9_draw_124 : decode cX9_draw 124 = .ok (.iload 6, 2) := by decide +kernel
theorem dX9_draw_126 : decode cX9_draw 126 = .ok (.istore 6, 2) := by decide +kernel
theorem dX9_draw_128 : decode cX9_draw 128 = .ok (.iinc 7 1, 3) := by decide +kernel
theorem dX9_draw_131 : decode cX9_draw 131 = .ok (.goto (-39), 3) := by decide +kernel
theorem dX9_draw_134 : decode cX9_draw 134 = .ok (.aload_n 0, 1) := by decide +kernel
theorem dX9_draw_135 : decode cX9_draw 135 = .ok (.getfield 80, 3) := by decide +kernel
theorem dX9_draw_138 : decode cX9_draw 138 = .ok (.iload 6, 2) := by decide +kernel
theorem dX9_draw_140 : decode cX9_draw 140 = .ok (.dup2, 1) := by decide +kernel
theorem dX9_draw_141 : decode cX9_draw 141 = .ok (.iaload, 1) := by decide +kernel
theorem dX9_draw_142 : decode cX9_draw 142 = .ok (.iconst 1, 1) := by decide +kernel
theorem dX9_draw_143 : decode cX9_draw 143 = .ok (.iadd, 1) := by decide +kernel
theorem dX9_draw_144 : decode cX9_draw 144 = .ok (.iastore, 1) := by decide +kernel
theorem dX9_draw_145 : decode cX9_draw 145 = .ok (.aload_n 0, 1) := by decide +kernel
theorem dX9_draw_146 : decode cX9_draw 146 = .ok (.getfield 83, 3) := by decide +kernel
theorem dX9_draw_149 : decode cX9_draw 149 = .ok (.iload 6, 2) := by decide +kernel
theorem dX9_draw_151 : decode cX9_draw 151 = .ok (.ldc2_w 173, 3) := by decide +kernel
theorem dX9_draw_154 : decode cX9_draw 154 = .ok (.lastore, 1) := by decide +kernel
theorem dX9_draw_155 : decode cX9_draw 155 = .ok (.iinc 5 (-1), 3) := by decide +kernel
theorem dX9_draw_158 : decode cX9_draw 158 = .ok (.goto (-77), 3) := by decide +kernel
theorem dX9_draw_161 : decode cX9_draw 161 = .ok (.iconst 0, 1) := by decide +kernel
theorem dX9_draw_162 : decode cX9_draw 162 = .ok (.istore 6, 2) := by decide +kernel
theorem dX9_draw_164 : decode cX9_draw 164 = .ok (.iload 6, 2) := by decide +kernel
theorem dX9_draw_166 : decode cX9_draw 166 = .ok (.aload_n 0, 1) := by decide +kernel
theorem dX9_draw_167 : decode cX9_draw 167 = .ok (.getfield 20, 3) := by decide +kernel
theorem dX9_draw_170 : decode cX9_draw 170 = .ok (.if_icmp .ge 31, 3) := by decide +kernel
theorem dX9_draw_173 : decode cX9_draw 173 = .ok (.aload_n 0, 1) := by decide +kernel
theorem dX9_draw_174 : decode cX9_draw 174 = .ok (.getfield 38, 3) := by decide +kernel
theorem dX9_draw_177 : decode cX9_draw 177 = .ok (.bipush 40, 2) := by decide +kernel
theorem dX9_draw_179 : decode cX9_draw 179 = .ok (.iload_n 1, 1) := by decide +kernel
theorem dX9_draw_180 : decode cX9_draw 180 = .ok (.imul, 1) := by decide +kernel
theorem dX9_draw_181 : decode cX9_draw 181 = .ok (.iload 6, 2) := by decide +kernel
theorem dX9_draw_183 : decode cX9_draw 183 = .ok (.iadd, 1) := by decide +kernel
theorem dX9_draw_184 : decode cX9_draw 184 = .ok (.dup2, 1) := by decide +kernel
theorem dX9_draw_185 : decode cX9_draw 185 = .ok (.iaload, 1) := by decide +kernel
theorem dX9_draw_186 : decode cX9_draw 186 = .ok (.aload_n 0, 1) := by decide +kernel
theorem dX9_draw_187 : decode cX9_draw 187 = .ok (.getfield 80, 3) := by decide +kernel
theorem dX9_draw_190 : decode cX9_draw 190 = .ok (.iload 6, 2) := by decide +kernel
theorem dX9_draw_192 : decode cX9_draw 192 = .ok (.iaload, 1) := by decide +kernel
theorem dX9_draw_193 : decode cX9_draw 193 = .ok (.isub, 1) := by decide +kernel
theorem dX9_draw_194 : decode cX9_draw 194 = .ok (.iastore, 1) := by decide +kernel
theorem dX9_draw_195 : decode cX9_draw 195 = .ok (.iinc 6 1, 3) := by decide +kernel
theorem dX9_draw_198 : decode cX9_draw 198 = .ok (.goto (-34), 3) := by decide +kernel
theorem dX9_draw_201 : decode cX9_draw 201 = .ok (.aload_n 0, 1) := by decide +kernel
theorem dX9_draw_202 : decode cX9_draw 202 = .ok (.iload_n 1, 1) := by decide +kernel
theorem dX9_draw_203 : decode cX9_draw 203 = .ok (.invokevirtual 169, 3) := by decide +kernel
theorem dX9_draw_206 : decode cX9_draw 206 = .ok (.ifCond .ne 10, 3) := by decide +kernel
theorem dX9_draw_209 : decode cX9_draw 209 = .ok (.aload_n 0, 1) := by decide +kernel
theorem dX9_draw_210 : decode cX9_draw 210 = .ok (.getfield 41, 3) := by decide +kernel
theorem dX9_draw_213 : decode cX9_draw 213 = .ok (.iload_n 1, 1) := by decide +kernel
theorem dX9_draw_214 : decode cX9_draw 214 = .ok (.iconst 0, 1) := by decide +kernel
theorem dX9_draw_215 : decode cX9_draw 215 = .ok (.iastore, 1) := by decide +kernel
theorem dX9_draw_216 : decode cX9_draw 216 = .ok (.return_, 1) := by decide +kernel
theorem dX9_spill_0 : decode cX9_spill 0 = .ok (.iload_n 1, 1) := by decide +kernel
theorem dX9_spill_1 : decode cX9_spill 1 = .ok (.invokestatic 165, 3) := by decide +kernel
theorem dX9_spill_4 : decode cX9_spill 4 = .ok (.ifCond .ne 5, 3) := by decide +kernel
theorem dX9_spill_7 : decode cX9_spill 7 = .ok (.iconst (-1), 1) := by decide +kernel
theorem dX9_spill_8 : decode cX9_spill 8 = .ok (.ireturn, 1) := by decide +kernel
theorem dX9_spill_9 : decode cX9_spill 9 = .ok (.iload_n 2, 1) := by decide +kernel
theorem dX9_spill_10 : decode cX9_spill 10 = .ok (.iconst 1, 1) := by decide +kernel
theorem dX9_spill_11 : decode cX9_spill 11 = .ok (.if_icmp .lt 12, 3) := by decide +kernel
theorem dX9_spill_14 : decode cX9_spill 14 = .ok (.iload_n 2, 1) := by decide +kernel
theorem dX9_spill_15 : decode cX9_spill 15 = .ok (.aload_n 0, 1) := by decide +kernel
theorem dX9_spill_16 : decode cX9_spill 16 = .ok (.iload_n 1, 1) := by decide +kernel
theorem dX9_spill_17 : decode cX9_spill 17 = .ok (.invokevirtual 169, 3) := by decide +kernel
theorem dX9_spill_20 : decode cX9_spill 20 = .ok (.if_icmp .le 6, 3) := by decide +kernel
theorem dX9_spill_23 : decode cX9_spill 23 = .ok (.bipush (-2), 2) := by decide +kernel
theorem dX9_spill_25 : decode cX9_spill 25 = .ok (.ireturn, 1) := by decide +kernel
theorem dX9_spill_26 : decode cX9_spill 26 = .ok (.aload_n 0, 1) := by decide +kernel
theorem dX9_spill_27 : decode cX9_spill 27 = .ok (.iload_n 1, 1) := by decide +kernel
theorem dX9_spill_28 : decode cX9_spill 28 = .ok (.iload_n 2, 1) := by decide +kernel
theorem dX9_spill_29 : decode cX9_spill 29 = .ok (.invokevirtual 175, 3) := by decide +kernel
theorem dX9_spill_32 : decode cX9_spill 32 = .ok (.aload_n 0, 1) := by decide +kernel
theorem dX9_spill_33 : decode cX9_spill 33 = .ok (.iload_n 1, 1) := by decide +kernel
theorem dX9_spill_34 : decode cX9_spill 34 = .ok (.invokevirtual 169, 3) := by decide +kernel
theorem dX9_spill_37 : decode cX9_spill 37 = .ok (.ireturn, 1) := by decide +kernel
theorem dX9_move_0 : decode cX9_move 0 = .ok (.iload_n 1, 1) := by decide +kernel
theorem dX9_move_1 : decode cX9_move 1 = .ok (.invokestatic 165, 3) := by decide +kernel
theorem dX9_move_4 : decode cX9_move 4 = .ok (.ifCond .eq 15, 3) := by decide +kernel
theorem dX9_move_7 : decode cX9_move 7 = .ok (.iload_n 2, 1) := by decide +kernel
theorem dX9_move_8 : decode cX9_move 8 = .ok (.invokestatic 165, 3) := by decide +kernel
theorem dX9_move_11 : decode cX9_move 11 = .ok (.ifCond .eq 8, 3) := by decide +kernel
theorem dX9_move_14 : decode cX9_move 14 = .ok (.iload_n 1, 1) := by decide +kernel
theorem dX9_move_15 : decode cX9_move 15 = .ok (.iload_n 2, 1) := by decide +kernel
theorem dX9_move_16 : decode cX9_move 16 = .ok (.if_icmp .ne 5, 3) := by decide +kernel
theorem dX9_move_19 : decode cX9_move 19 = .ok (.iconst (-1), 1) := by decide +kernel
theorem dX9_move_20 : decode cX9_move 20 = .ok (.ireturn, 1) := by decide +kernel
theorem dX9_move_21 : decode cX9_move 21 = .ok (.iload_n 3, 1) := by decide +kernel
theorem dX9_move_22 : decode cX9_move 22 = .ok (.iconst 1, 1) := by decide +kernel
theorem dX9_move_23 : decode cX9_move 23 = .ok (.if_icmp .lt 28, 3) := by decide +kernel
theorem dX9_move_26 : decode cX9_move 26 = .ok (.iload_n 3, 1) := by decide +kernel
theorem dX9_move_27 : decode cX9_move 27 = .ok (.aload_n 0, 1) := by decide +kernel
theorem dX9_move_28 : decode cX9_move 28 = .ok (.iload_n 1, 1) := by decide +kernel
theorem dX9_move_29 : decode cX9_move 29 = .ok (.invokevirtual 169, 3) := by decide +kernel
theorem dX9_move_32 : decode cX9_move 32 = .ok (.if_icmp .gt 19, 3) := by decide +kernel
theorem dX9_move_35 : decode cX9_move 35 = .ok (.iload_n 3, 1) := by decide +kernel
theorem dX9_move_36 : decode cX9_move 36 = .ok (.aload_n 0, 1) := by decide +kernel
theorem dX9_move_37 : decode cX9_move 37 = .ok (.getfield 44, 3) := by decide +kernel
theorem dX9_move_40 : decode cX9_move 40 = .ok (.iload_n 2, 1) := by decide +kernel
theorem dX9_move_41 : decode cX9_move 41 = .ok (.iaload, 1) := by decide +kernel
theorem dX9_move_42 : decode cX9_move 42 = .ok (.aload_n 0, 1) := by decide +kernel
theorem dX9_move_43 : decode cX9_move 43 = .ok (.iload_n 2, 1) := by decide +kernel
theorem dX9_move_44 : decode cX9_move 44 = .ok (.invokevirtual 169, 3) := by decide +kernel
theorem dX9_move_47 : decode cX9_move 47 = .ok (.isub, 1) := by decide +kernel
theorem dX9_move_48 : decode cX9_move 48 = .ok (.if_icmp .le 6, 3) := by decide +kernel
theorem dX9_move_51 : decode cX9_move 51 = .ok (.bipush (-2), 2) := by decide +kernel
theorem dX9_move_53 : decode cX9_move 53 = .ok (.ireturn, 1) := by decide +kernel
theorem dX9_move_54 : decode cX9_move 54 = .ok (.aload_n 0, 1) := by decide +kernel
theorem dX9_move_55 : decode cX9_move 55 = .ok (.getfield 41, 3) := by decide +kernel
theorem dX9_move_58 : decode cX9_move 58 = .ok (.iload_n 1, 1) := by decide +kernel
theorem dX9_move_59 : decode cX9_move 59 = .ok (.iaload, 1) := by decide +kernel
theorem dX9_move_60 : decode cX9_move 60 = .ok (.istore 4, 2) := by decide +kernel
theorem dX9_move_62 : decode cX9_move 62 = .ok (.aload_n 0, 1) := by decide +kernel
theorem dX9_move_63 : decode cX9_move 63 = .ok (.getfield 41, 3) := by decide +kernel
theorem dX9_move_66 : decode cX9_move 66 = .ok (.iload_n 2, 1) := by decide +kernel
theorem dX9_move_67 : decode cX9_move 67 = .ok (.aload_n 0, 1) := by decide +kernel
theorem dX9_move_68 : decode cX9_move 68 = .ok (.iload_n 2, 1) := by decide +kernel
theorem dX9_move_69 : decode cX9_move 69 = .ok (.invokevirtual 169, 3) := by decide +kernel
theorem dX9_move_72 : decode cX9_move 72 = .ok (.ifCond .eq 14, 3) := by decide +kernel
theorem dX9_move_75 : decode cX9_move 75 = .ok (.iload 4, 2) := by decide +kernel
theorem dX9_move_77 : decode cX9_move 77 = .ok (.aload_n 0, 1) := by decide +kernel
theorem dX9_move_78 : decode cX9_move 78 = .ok (.getfield 41, 3) := by decide +kernel
theorem dX9_move_81 : decode cX9_move 81 = .ok (.iload_n 2, 1) := by decide +kernel
theorem dX9_move_82 : decode cX9_move 82 = .ok (.iaload, 1) := by decide +kernel
theorem dX9_move_83 : decode cX9_move 83 = .ok (.if_icmp .le 8, 3) := by decide +kernel
theorem dX9_move_86 : decode cX9_move 86 = .ok (.iload 4, 2) := by decide +kernel
theorem dX9_move_88 : decode cX9_move 88 = .ok (.goto 9, 3) := by decide +kernel
theorem dX9_move_91 : decode cX9_move 91 = .ok (.aload_n 0, 1) := by decide +kernel
theorem dX9_move_92 : decode cX9_move 92 = .ok (.getfield 41, 3) := by decide +kernel
theorem dX9_move_95 : decode cX9_move 95 = .ok (.iload_n 2, 1) := by decide +kernel
theorem dX9_move_96 : decode cX9_move 96 = .ok (.iaload, 1) := by decide +kernel
theorem dX9_move_97 : decode cX9_move 97 = .ok (.iastore, 1) := by decide +kernel
theorem dX9_move_98 : decode cX9_move 98 = .ok (.aload_n 0, 1) := by decide +kernel
theorem dX9_move_99 : decode cX9_move 99 = .ok (.iload_n 1, 1) := by decide +kernel
theorem dX9_move_100 : decode cX9_move 100 = .ok (.iload_n 3, 1) := by decide +kernel
theorem dX9_move_101 : decode cX9_move 101 = .ok (.invokevirtual 175, 3) := by decide +kernel
theorem dX9_move_104 : decode cX9_move 104 = .ok (.iconst 0, 1) := by decide +kernel
theorem dX9_move_105 : decode cX9_move 105 = .ok (.istore 5, 2) := by decide +kernel
theorem dX9_move_107 : decode cX9_move 107 = .ok (.iload 5, 2) := by decide +kernel
theorem dX9_move_109 : decode cX9_move 109 = .ok (.aload_n 0, 1) := by decide +kernel
theorem dX9_move_110 : decode cX9_move 110 = .ok (.getfield 20, 3) := by decide +kernel
theorem dX9_move_113 : decode cX9_move 113 = .ok (.if_icmp .ge 31, 3) := by decide +kernel
theorem dX9_move_116 : decode cX9_move 116 = .ok (.aload_n 0, 1) := by decide +kernel
theorem dX9_move_117 : decode cX9_move 117 = .ok (.getfield 38, 3) := by decide +kernel
theorem dX9_move_120 : decode cX9_move 120 = .ok (.bipush 40, 2) := by decide +kernel
theorem dX9_move_122 : decode cX9_move 122 = .ok (.iload_n 2, 1) := by decide +kernel
theorem dX9_move_123 : decode cX9_move 123 = .ok (.imul, 1) := by decide +kernel
theorem dX9_move_124 : decode cX9_move 124 = .ok (.iload 5, 2) := by decide +kernel
theorem dX9_move_126 : decode cX9_move 126 = .ok (.iadd, 1) := by decide +kernel
theorem dX9_move_127 : decode cX9_move 127 = .ok (.dup2, 1) := by decide +kernel
theorem dX9_move_128 : decode cX9_move 128 = .ok (.iaload, 1) := by decide +kernel
theorem dX9_move_129 : decode cX9_move 129 = .ok (.aload_n 0, 1) := by decide +kernel
theorem dX9_move_130 : decode cX9_move 130 = .ok (.getfield 80, 3) := by decide +kernel
theorem dX9_move_133 : decode cX9_move 133 = .ok (.iload 5, 2) := by decide +kernel
theorem dX9_move_135 : decode cX9_move 135 = .ok (.iaload, 1) := by decide +kernel
theorem dX9_move_136 : decode cX9_move 136 = .ok (.iadd, 1) := by decide +kernel
theorem dX9_move_137 : decode cX9_move 137 = .ok (.iastore, 1) := by decide +kernel
theorem dX9_move_138 : decode cX9_move 138 = .ok (.iinc 5 1, 3) := by decide +kernel
theorem dX9_move_141 : decode cX9_move 141 = .ok (.goto (-34), 3) := by decide +kernel
theorem dX9_move_144 : decode cX9_move 144 = .ok (.aload_n 0, 1) := by decide +kernel
theorem dX9_move_145 : decode cX9_move 145 = .ok (.iload_n 1, 1) := by decide +kernel
theorem dX9_move_146 : decode cX9_move 146 = .ok (.invokevirtual 169, 3) := by decide +kernel
theorem dX9_move_149 : decode cX9_move 149 = .ok (.ireturn, 1) := by decide +kernel
theorem dX9_jar_0 : decode cX9_jar 0 = .ok (.iload_n 1, 1) := by decide +kernel
theorem dX9_jar_1 : decode cX9_jar 1 = .ok (.invokestatic 165, 3) := by decide +kernel
theorem dX9_jar_4 : decode cX9_jar 4 = .ok (.ifCond .ne 5, 3) := by decide +kernel
theorem dX9_jar_7 : decode cX9_jar 7 = .ok (.iconst (-1), 1) := by decide +kernel
theorem dX9_jar_8 : decode cX9_jar 8 = .ok (.ireturn, 1) := by decide +kernel
theorem dX9_jar_9 : decode cX9_jar 9 = .ok (.iload_n 2, 1) := by decide +kernel
theorem dX9_jar_10 : decode cX9_jar 10 = .ok (.iconst 1, 1) := by decide +kernel
theorem dX9_jar_11 : decode cX9_jar 11 = .ok (.if_icmp .lt 12, 3) := by decide +kernel
theorem dX9_jar_14 : decode cX9_jar 14 = .ok (.iload_n 2, 1) := by decide +kernel
theorem dX9_jar_15 : decode cX9_jar 15 = .ok (.aload_n 0, 1) := by decide +kernel
theorem dX9_jar_16 : decode cX9_jar 16 = .ok (.iload_n 1, 1) := by decide +kernel
theorem dX9_jar_17 : decode cX9_jar 17 = .ok (.invokevirtual 169, 3) := by decide +kernel
theorem dX9_jar_20 : decode cX9_jar 20 = .ok (.if_icmp .le 6, 3) := by decide +kernel
theorem dX9_jar_23 : decode cX9_jar 23 = .ok (.bipush (-2), 2) := by decide +kernel
theorem dX9_jar_25 : decode cX9_jar 25 = .ok (.ireturn, 1) := by decide +kernel
theorem dX9_jar_26 : decode cX9_jar 26 = .ok (.aload_n 0, 1) := by decide +kernel
theorem dX9_jar_27 : decode cX9_jar 27 = .ok (.getfield 50, 3) := by decide +kernel
theorem dX9_jar_30 : decode cX9_jar 30 = .ok (.bipush 60, 2) := by decide +kernel
theorem dX9_jar_32 : decode cX9_jar 32 = .ok (.if_icmp .ne 6, 3) := by decide +kernel
theorem dX9_jar_35 : decode cX9_jar 35 = .ok (.bipush (-3), 2) := by decide +kernel
theorem dX9_jar_37 : decode cX9_jar 37 = .ok (.ireturn, 1) := by decide +kernel
theorem dX9_jar_38 : decode cX9_jar 38 = .ok (.bipush 10, 2) := by decide +kernel
theorem dX9_jar_40 : decode cX9_jar 40 = .ok (.aload_n 0, 1) := by decide +kernel
theorem dX9_jar_41 : decode cX9_jar 41 = .ok (.getfield 50, 3) := by decide +kernel
theorem dX9_jar_44 : decode cX9_jar 44 = .ok (.iadd, 1) := by decide +kernel
theorem dX9_jar_45 : decode cX9_jar 45 = .ok (.istore_n 3, 1) := by decide +kernel
theorem dX9_jar_46 : decode cX9_jar 46 = .ok (.aload_n 0, 1) := by decide +kernel
theorem dX9_jar_47 : decode cX9_jar 47 = .ok (.dup, 1) := by decide +kernel
theorem dX9_jar_48 : decode cX9_jar 48 = .ok (.getfield 50, 3) := by decide +kernel
theorem dX9_jar_51 : decode cX9_jar 51 = .ok (.iconst 1, 1) := by decide +kernel
theorem dX9_jar_52 : decode cX9_jar 52 = .ok (.iadd, 1) := by decide +kernel
theorem dX9_jar_53 : decode cX9_jar 53 = .ok (.putfield 50, 3) := by decide +kernel
theorem dX9_jar_56 : decode cX9_jar 56 = .ok (.aload_n 0, 1) := by decide +kernel
theorem dX9_jar_57 : decode cX9_jar 57 = .ok (.getfield 41, 3) := by decide +kernel
theorem dX9_jar_60 : decode cX9_jar 60 = .ok (.iload_n 3, 1) := by decide +kernel
theorem dX9_jar_61 : decode cX9_jar 61 = .ok (.aload_n 0, 1) := by decide +kernel
theorem dX9_jar_62 : decode cX9_jar 62 = .ok (.getfield 41, 3) := by decide +kernel
theorem dX9_jar_65 : decode cX9_jar 65 = .ok (.iload_n 1, 1) := by decide +kernel
theorem dX9_jar_66 : decode cX9_jar 66 = .ok (.iaload, 1) := by decide +kernel
theorem dX9_jar_67 : decode cX9_jar 67 = .ok (.iastore, 1) := by decide +kernel
theorem dX9_jar_68 : decode cX9_jar 68 = .ok (.aload_n 0, 1) := by decide +kernel
theorem dX9_jar_69 : decode cX9_jar 69 = .ok (.getfield 44, 3) := by decide +kernel
theorem dX9_jar_72 : decode cX9_jar 72 = .ok (.iload_n 3, 1) := by decide +kernel
theorem dX9_jar_73 : decode cX9_jar 73 = .ok (.iload_n 1, 1) := by decide +kernel
theorem dX9_jar_74 : decode cX9_jar 74 = .ok (.iastore, 1) := by decide +kernel
theorem dX9_jar_75 : decode cX9_jar 75 = .ok (.aload_n 0, 1) := by decide +kernel
theorem dX9_jar_76 : decode cX9_jar 76 = .ok (.getfield 47, 3) := by decide +kernel
theorem dX9_jar_79 : decode cX9_jar 79 = .ok (.iload_n 3, 1) := by decide +kernel
theorem dX9_jar_80 : decode cX9_jar 80 = .ok (.aload_n 0, 1) := by decide +kernel
theorem dX9_jar_81 : decode cX9_jar 81 = .ok (.getfield 17, 3) := by decide +kernel
theorem dX9_jar_84 : decode cX9_jar 84 = .ok (.iastore, 1) := by decide +kernel
theorem dX9_jar_85 : decode cX9_jar 85 = .ok (.aload_n 0, 1) := by decide +kernel
theorem dX9_jar_86 : decode cX9_jar 86 = .ok (.iload_n 1, 1) := by decide +kernel
theorem dX9_jar_87 : decode cX9_jar 87 = .ok (.iload_n 2, 1) := by decide +kernel
theorem dX9_jar_88 : decode cX9_jar 88 = .ok (.invokevirtual 175, 3) := by decide +kernel
theorem dX9_jar_91 : decode cX9_jar 91 = .ok (.iconst 0, 1) := by decide +kernel
theorem dX9_jar_92 : decode cX9_jar 92 = .ok (.istore 4, 2) := by decide +kernel
theorem dX9_jar_94 : decode cX9_jar 94 = .ok (.iload 4, 2) := by decide +kernel
theorem dX9_jar_96 : decode cX9_jar 96 = .ok (.bipush 40, 2) := by decide +kernel
theorem dX9_jar_98 : decode cX9_jar 98 = .ok (.if_icmp .ge 41, 3) := by decide +kernel
theorem dX9_jar_101 : decode cX9_jar 101 = .ok (.aload_n 0, 1) := by decide +kernel
theorem dX9_jar_102 : decode cX9_jar 102 = .ok (.getfield 38, 3) := by decide +kernel
theorem dX9_jar_105 : decode cX9_jar 105 = .ok (.bipush 40, 2) := by decide +kernel
theorem dX9_jar_107 : decode cX9_jar 107 = .ok (.iload_n 3, 1) := by decide +kernel
theorem dX9_jar_108 : decode cX9_jar 108 = .ok (.imul, 1) := by decide +kernel
theorem dX9_jar_109 : decode cX9_jar 109 = .ok (.iload 4, 2) := by decide +kernel
theorem dX9_jar_111 : decode cX9_jar 111 = .ok (.iadd, 1) := by decide +kernel
theorem dX9_jar_112 : decode cX9_jar 112 = .ok (.iload 4, 2) := by decide +kernel
theorem dX9_jar_114 : decode cX9_jar 114 = .ok (.aload_n 0, 1) := by decide +kernel
theorem dX9_jar_115 : decode cX9_jar 115 = .ok (.getfield 20, 3) := by decide +kernel
theorem dX9_jar_118 : decode cX9_jar 118 = .ok (.if_icmp .ge 13, 3) := by decide +kernel
theorem dX9_jar_121 : decode cX9_jar 121 = .ok (.aload_n 0, 1) := by decide +kernel
theorem dX9_jar_122 : decode cX9_jar 122 = .ok (.getfield 80, 3) := by decide +kernel
theorem dX9_jar_125 : decode cX9_jar 125 = .ok (.iload 4, 2) := by decide +kernel
theorem dX9_jar_127 : decode cX9_jar 127 = .ok (.iaload, 1) := by decide +kernel
theorem dX9_jar_128 : decode cX9_jar 128 = .ok (.goto 4, 3) := by decide +kernel
theorem dX9_jar_131 : decode cX9_jar 131 = .ok (.iconst 0, 1) := by decide +kernel
theorem dX9_jar_132 : decode cX9_jar 132 = .ok (.iastore, 1) := by decide +kernel
theorem dX9_jar_133 : decode cX9_jar 133 = .ok (.iinc 4 1, 3) := by decide +kernel
theorem dX9_jar_136 : decode cX9_jar 136 = .ok (.goto (-42), 3) := by decide +kernel
theorem dX9_jar_139 : decode cX9_jar 139 = .ok (.aload_n 0, 1) := by decide +kernel
theorem dX9_jar_140 : decode cX9_jar 140 = .ok (.getfield 50, 3) := by decide +kernel
theorem dX9_jar_143 : decode cX9_jar 143 = .ok (.iconst 1, 1) := by decide +kernel
theorem dX9_jar_144 : decode cX9_jar 144 = .ok (.isub, 1) := by decide +kernel
theorem dX9_jar_145 : decode cX9_jar 145 = .ok (.ireturn, 1) := by decide +kernel
theorem dX9_trace_0 : decode cX9_trace 0 = .ok (.aload_n 0, 1) := by decide +kernel
theorem dX9_trace_1 : decode cX9_trace 1 = .ok (.iload_n 1, 1) := by decide +kernel
theorem dX9_trace_2 : decode cX9_trace 2 = .ok (.invokevirtual 160, 3) := by decide +kernel
theorem dX9_trace_5 : decode cX9_trace 5 = .ok (.ifCond .ne 5, 3) := by decide +kernel
theorem dX9_trace_8 : decode cX9_trace 8 = .ok (.iconst (-1), 1) := by decide +kernel
theorem dX9_trace_9 : decode cX9_trace 9 = .ok (.ireturn, 1) := by decide +kernel
theorem dX9_trace_10 : decode cX9_trace 10 = .ok (.aload_n 0, 1) := by decide +kernel
theorem dX9_trace_11 : decode cX9_trace 11 = .ok (.iconst 0, 1) := by decide +kernel
theorem dX9_trace_12 : decode cX9_trace 12 = .ok (.putfield 142, 3) := by decide +kernel
theorem dX9_trace_15 : decode cX9_trace 15 = .ok (.iconst 0, 1) := by decide +kernel
theorem dX9_trace_16 : decode cX9_trace 16 = .ok (.istore_n 2, 1) := by decide +kernel
theorem dX9_trace_17 : decode cX9_trace 17 = .ok (.iload_n 2, 1) := by decide +kernel
theorem dX9_trace_18 : decode cX9_trace 18 = .ok (.aload_n 0, 1) := by decide +kernel
theorem dX9_trace_19 : decode cX9_trace 19 = .ok (.getfield 50, 3) := by decide +kernel
theorem dX9_trace_22 : decode cX9_trace 22 = .ok (.if_icmp .ge 49, 3) := by decide +kernel
theorem dX9_trace_25 : decode cX9_trace 25 = .ok (.aload_n 0, 1) := by decide +kernel
theorem dX9_trace_26 : decode cX9_trace 26 = .ok (.getfield 38, 3) := by decide +kernel
theorem dX9_trace_29 : decode cX9_trace 29 = .ok (.bipush 40, 2) := by decide +kernel
theorem dX9_trace_31 : decode cX9_trace 31 = .ok (.bipush 10, 2) := by decide +kernel
theorem dX9_trace_33 : decode cX9_trace 33 = .ok (.iload_n 2, 1) := by decide +kernel
theorem dX9_trace_34 : decode cX9_trace 34 = .ok (.iadd, 1) := by decide +kernel
theorem dX9_trace_35 : decode cX9_trace 35 = .ok (.imul, 1) := by decide +kernel
theorem dX9_trace_36 : decode cX9_trace 36 = .ok (.iload_n 1, 1) := by decide +kernel
theorem dX9_trace_37 : decode cX9_trace 37 = .ok (.iadd, 1) := by decide +kernel
theorem dX9_trace_38 : decode cX9_trace 38 = .ok (.iaload, 1) := by decide +kernel
theorem dX9_trace_39 : decode cX9_trace 39 = .ok (.ifCond .ne 6, 3) := by decide +kernel
theorem dX9_trace_42 : decode cX9_trace 42 = .ok (.goto 23, 3) := by decide +kernel
theorem dX9_trace_45 : decode cX9_trace 45 = .ok (.aload_n 0, 1) := by decide +kernel
theorem dX9_trace_46 : decode cX9_trace 46 = .ok (.getfield 139, 3) := by decide +kernel
theorem dX9_trace_49 : decode cX9_trace 49 = .ok (.aload_n 0, 1) := by decide +kernel
theorem dX9_trace_50 : decode cX9_trace 50 = .ok (.getfield 142, 3) := by decide +kernel
theorem dX9_trace_53 : decode cX9_trace 53 = .ok (.iload_n 2, 1) := by decide +kernel
theorem dX9_trace_54 : decode cX9_trace 54 = .ok (.iastore, 1) := by decide +kernel
theorem dX9_trace_55 : decode cX9_trace 55 = .ok (.aload_n 0, 1) := by decide +kernel
theorem dX9_trace_56 : decode cX9_trace 56 = .ok (.dup, 1) := by decide +kernel
theorem dX9_trace_57 : decode cX9_trace 57 = .ok (.getfield 142, 3) := by decide +kernel
theorem dX9_trace_60 : decode cX9_trace 60 = .ok (.iconst 1, 1) := by decide +kernel
theorem dX9_trace_61 : decode cX9_trace 61 = .ok (.iadd, 1) := by decide +kernel
theorem dX9_trace_62 : decode cX9_trace 62 = .ok (.putfield 142, 3) := by decide +kernel
theorem dX9_trace_65 : decode cX9_trace 65 = .ok (.iinc 2 1, 3) := by decide +kernel
theorem dX9_trace_68 : decode cX9_trace 68 = .ok (.goto (-51), 3) := by decide +kernel
theorem dX9_trace_71 : decode cX9_trace 71 = .ok (.aload_n 0, 1) := by decide +kernel
theorem dX9_trace_72 : decode cX9_trace 72 = .ok (.getfield 142, 3) := by decide +kernel
theorem dX9_trace_75 : decode cX9_trace 75 = .ok (.ireturn, 1) := by decide +kernel
theorem dX9_shut_0 : decode cX9_shut 0 = .ok (.iload_n 1, 1) := by decide +kernel
theorem dX9_shut_1 : decode cX9_shut 1 = .ok (.ifCond .lt 31, 3) := by decide +kernel
theorem dX9_shut_4 : decode cX9_shut 4 = .ok (.iload_n 1, 1) := by decide +kernel
theorem dX9_shut_5 : decode cX9_shut 5 = .ok (.aload_n 0, 1) := by decide +kernel
theorem dX9_shut_6 : decode cX9_shut 6 = .ok (.getfield 53, 3) := by decide +kernel
theorem dX9_shut_9 : decode cX9_shut 9 = .ok (.if_icmp .ge 23, 3) := by decide +kernel
theorem dX9_shut_12 : decode cX9_shut 12 = .ok (.aload_n 0, 1) := by decide +kernel
theorem dX9_shut_13 : decode cX9_shut 13 = .ok (.getfield 65, 3) := by decide +kernel
theorem dX9_shut_16 : decode cX9_shut 16 = .ok (.iload_n 1, 1) := by decide +kernel
theorem dX9_shut_17 : decode cX9_shut 17 = .ok (.iaload, 1) := by decide +kernel
theorem dX9_shut_18 : decode cX9_shut 18 = .ok (.iconst (-1), 1) := by decide +kernel
theorem dX9_shut_19 : decode cX9_shut 19 = .ok (.if_icmp .ne 13, 3) := by decide +kernel
theorem dX9_shut_22 : decode cX9_shut 22 = .ok (.iload_n 2, 1) := by decide +kernel
theorem dX9_shut_23 : decode cX9_shut 23 = .ok (.aload_n 0, 1) := by decide +kernel
theorem dX9_shut_24 : decode cX9_shut 24 = .ok (.getfield 62, 3) := by decide +kernel
theorem dX9_shut_27 : decode cX9_shut 27 = .ok (.iload_n 1, 1) := by decide +kernel
theorem dX9_shut_28 : decode cX9_shut 28 = .ok (.iaload, 1) := by decide +kernel
theorem dX9_shut_29 : decode cX9_shut 29 = .ok (.if_icmp .ge 5, 3) := by decide +kernel
theorem dX9_shut_32 : decode cX9_shut 32 = .ok (.iconst 0, 1) := by decide +kernel
theorem dX9_shut_33 : decode cX9_shut 33 = .ok (.ireturn, 1) := by decide +kernel
theorem dX9_shut_34 : decode cX9_shut 34 = .ok (.aload_n 0, 1) := by decide +kernel
theorem dX9_shut_35 : decode cX9_shut 35 = .ok (.getfield 65, 3) := by decide +kernel
theorem dX9_shut_38 : decode cX9_shut 38 = .ok (.iload_n 1, 1) := by decide +kernel
theorem dX9_shut_39 : decode cX9_shut 39 = .ok (.iload_n 2, 1) := by decide +kernel
theorem dX9_shut_40 : decode cX9_shut 40 = .ok (.iastore, 1) := by decide +kernel
theorem dX9_shut_41 : decode cX9_shut 41 = .ok (.iconst 1, 1) := by decide +kernel
theorem dX9_shut_42 : decode cX9_shut 42 = .ok (.ireturn, 1) := by decide +kernel
set_option maxRecDepth 20000 in
theorem ggX9_feed_X9_put : GoodIn wsX9_feed wsX9_put := goodIn_r _ [6, 7, 1, 8, 9, 10, 11, 12, 13, 14, 15, 16, 17, 18, 19, 20, 21, 22, 23, 24, 25, 26, 27, 28, 29, 30, 31, 32, 33, 34, 35, 36, 37, 38, 39, 40, 41, 42, 43, 44, 45, 46, 47, 48, 49, 50, 51] rfl (by decide +kernel)
set_option maxRecDepth 20000 in
theorem gX9_feed_X9_put : GoodIn wsX9_feed (wsV RX9 145 RX9 yX9_put wsX9_put) := goodIn_app (goodIn_of _ (by decide +kernel)) ggX9_feed_X9_put
set_option maxRecDepth 20000 in
theorem ggX9_step_X9_is : GoodIn wsX9_step wsX9_is := goodIn_r _ [6] rfl (by decide +kernel)
set_option maxRecDepth 20000 in
theorem gX9_step_X9_is : GoodIn wsX9_step (va_wsS RX9 151 yX9_is wsX9_is) := goodIn_app (goodIn_of _ (by decide +kernel)) ggX9_step_X9_is
set_option maxRecDepth 20000 in
theorem ggX9_pollen_X9_isLot : GoodIn wsX9_pollen wsX9_isLot := goodIn_r _ [7, 8, 12, 13, 14, 15, 16, 17, 18, 19, 20, 21, 22, 23, 24, 25, 26, 27, 28, 29, 30, 31, 32, 33, 34, 35, 36, 37, 38, 39, 40, 41, 42, 43, 44, 45, 46, 47, 48, 49, 50, 51, 52, 53, 54, 55] rfl (by decide +kernel)
set_option maxRecDepth 20000 in
theorem gX9_pollen_X9_isLot : GoodIn wsX9_pollen (wsV RX9 160 RX9 yX9_isLot wsX9_isLot) := goodIn_app (goodIn_of _ (by decide +kernel)) ggX9_pollen_X9_isLot
set_option maxRecDepth 20000 in
theorem ggX9_pollen_X9_is : GoodIn wsX9_pollen wsX9_is := goodIn_r _ [11] rfl (by decide +kernel)
set_option maxRecDepth 20000 in
theorem gX9_pollen_X9_is : GoodIn wsX9_pollen (va_wsS RX9 151 yX9_is wsX9_is) := goodIn_app (goodIn_of _ (by decide +kernel)) ggX9_pollen_X9_is
set_option maxRecDepth 20000 in
theorem ggX9_test_X9_isLot : GoodIn wsX9_test wsX9_isLot := goodIn_r _ [7, 8, 18, 19, 20, 21, 22, 23, 24, 25, 26, 27, 28, 29, 30, 31, 32, 33, 34, 35, 36, 37, 38, 39, 40, 41, 42, 43, 44, 45, 46, 47, 48, 49, 50, 51, 52, 53, 54, 55, 56, 57, 58, 59, 60, 61] rfl (by decide +kernel)
set_option maxRecDepth 20000 in
theorem gX9_test_X9_isLot : GoodIn wsX9_test (wsV RX9 160 RX9 yX9_isLot wsX9_isLot) := goodIn_app (goodIn_of _ (by decide +kernel)) ggX9_test_X9_isLot
set_option maxRecDepth 20000 in
theorem ggX9_test_X9_is : GoodIn wsX9_test wsX9_is := goodIn_r _ [11] rfl (by decide +kernel)
set_option maxRecDepth 20000 in
theorem gX9_test_X9_is : GoodIn wsX9_test (va_wsS RX9 151 yX9_is wsX9_is) := goodIn_app (goodIn_of _ (by decide +kernel)) ggX9_test_X9_is
set_option maxRecDepth 20000 in
theorem ggX9_test_X9_pay : GoodIn wsX9_test wsX9_pay := goodIn_r _ [15, 16, 2, 17, 18, 19, 20, 21, 22, 23, 24, 25, 26, 27, 28, 29, 30, 31, 32, 33, 34, 35, 36, 37, 38, 39, 40, 41, 42, 43, 44, 45, 46, 47, 48, 49, 50, 51, 52, 53, 54, 55, 56, 57, 58, 59, 60, 61] rfl (by decide +kernel)
set_option maxRecDepth 20000 in
theorem gX9_test_X9_pay : GoodIn wsX9_test (wsV RX9 156 RX9 yX9_pay wsX9_pay) := goodIn_app (goodIn_of _ (by decide +kernel)) ggX9_test_X9_pay
set_option maxRecDepth 20000 in
theorem ggX9_tank_X9_isTank : GoodIn wsX9_tank wsX9_isTank := goodIn_r _ [7] rfl (by decide +kernel)
set_option maxRecDepth 20000 in
theorem gX9_tank_X9_isTank : GoodIn wsX9_tank (va_wsS RX9 165 yX9_isTank wsX9_isTank) := goodIn_app (goodIn_of _ (by decide +kernel)) ggX9_tank_X9_isTank
set_option maxRecDepth 20000 in
theorem ggX9_tank_X9_is : GoodIn wsX9_tank wsX9_is := goodIn_r _ [10] rfl (by decide +kernel)
set_option maxRecDepth 20000 in
theorem gX9_tank_X9_is : GoodIn wsX9_tank (va_wsS RX9 151 yX9_is wsX9_is) := goodIn_app (goodIn_of _ (by decide +kernel)) ggX9_tank_X9_is
set_option maxRecDepth 20000 in
theorem ggX9_tank_X9_all : GoodIn wsX9_tank wsX9_all := goodIn_r _ [14, 15, 16, 17, 18, 19, 20, 21, 22, 23, 24, 25, 26, 27, 28, 29, 30, 31, 32, 33, 34, 35, 36, 37, 38, 39, 40, 41, 42, 43, 44, 45, 46, 47, 48, 49, 50, 51, 52, 53, 54, 55, 56, 57, 58, 59, 60] rfl (by decide +kernel)
set_option maxRecDepth 20000 in
theorem gX9_tank_X9_all : GoodIn wsX9_tank (wsV RX9 169 RX9 yX9_all wsX9_all) := goodIn_app (goodIn_of _ (by decide +kernel)) ggX9_tank_X9_all
set_option maxRecDepth 20000 in
theorem ggX9_warm_X9_isTank : GoodIn wsX9_warm wsX9_isTank := goodIn_r _ [5] rfl (by decide +kernel)
set_option maxRecDepth 20000 in
theorem gX9_warm_X9_isTank : GoodIn wsX9_warm (va_wsS RX9 165 yX9_isTank wsX9_isTank) := goodIn_app (goodIn_of _ (by decide +kernel)) ggX9_warm_X9_isTank
set_option maxRecDepth 20000 in
theorem ggX9_warm_X9_all : GoodIn wsX9_warm wsX9_all := goodIn_r _ [9, 10, 11, 15, 16, 17, 18, 19, 20, 21, 22, 23, 24, 25, 26, 27, 28, 29, 30, 31, 32, 33, 34, 35, 36, 37, 38, 39, 40, 41, 42, 43, 44, 45, 46, 47, 48, 49, 50, 51, 52, 53, 54, 55, 56, 57, 58] rfl (by decide +kernel)
set_option maxRecDepth 20000 in
theorem gX9_warm_X9_all : GoodIn wsX9_warm (wsV RX9 169 RX9 yX9_all wsX9_all) := goodIn_app (goodIn_of _ (by decide +kernel)) ggX9_warm_X9_all
set_option maxRecDepth 20000 in
theorem ggX9_warm_X9_is : GoodIn wsX9_warm wsX9_is := goodIn_r _ [14] rfl (by decide +kernel)
set_option maxRecDepth 20000 in
theorem gX9_warm_X9_is : GoodIn wsX9_warm (va_wsS RX9 151 yX9_is wsX9_is) := goodIn_app (goodIn_of _ (by decide +kernel)) ggX9_warm_X9_is
set_option maxRecDepth 20000 in
theorem ggX9_pour_X9_isLot : GoodIn wsX9_pour wsX9_isLot := goodIn_r _ [8, 9, 17, 18, 19, 20, 21, 22, 23, 24, 25, 26, 27, 28, 29, 30, 31, 32, 33, 34, 35, 36, 37, 38, 39, 40, 41, 42, 43, 44, 45, 46, 47, 48, 49, 50, 51, 52, 53, 54, 55, 56, 57, 58, 59, 60] rfl (by decide +kernel)
set_option maxRecDepth 20000 in
theorem gX9_pour_X9_isLot : GoodIn wsX9_pour (wsV RX9 160 RX9 yX9_isLot wsX9_isLot) := goodIn_app (goodIn_of _ (by decide +kernel)) ggX9_pour_X9_isLot
set_option maxRecDepth 20000 in
theorem ggX9_pour_X9_isTank : GoodIn wsX9_pour wsX9_isTank := goodIn_r _ [12] rfl (by decide +kernel)
set_option maxRecDepth 20000 in
theorem gX9_pour_X9_isTank : GoodIn wsX9_pour (va_wsS RX9 165 yX9_isTank wsX9_isTank) := goodIn_app (goodIn_of _ (by decide +kernel)) ggX9_pour_X9_isTank
set_option maxRecDepth 20000 in
theorem ggX9_pour_X9_all : GoodIn wsX9_pour wsX9_all := goodIn_r _ [16, 9, 3, 17, 18, 19, 20, 21, 22, 23, 24, 25, 26, 27, 28, 29, 30, 31, 32, 33, 34, 35, 36, 37, 38, 39, 40, 41, 42, 43, 44, 45, 46, 47, 48, 49, 50, 51, 52, 53, 54, 55, 56, 57, 58, 59, 60] rfl (by decide +kernel)
set_option maxRecDepth 20000 in
theorem gX9_pour_X9_all : GoodIn wsX9_pour (wsV RX9 169 RX9 yX9_all wsX9_all) := goodIn_app (goodIn_of _ (by decide +kernel)) ggX9_pour_X9_all
set_option maxRecDepth 20000 in
theorem ggX9_draw_X9_all : GoodIn wsX9_draw wsX9_all := goodIn_r _ [11, 1, 2, 12, 13, 14, 15, 16, 17, 18, 19, 20, 21, 22, 23, 24, 25, 26, 27, 28, 29, 30, 31, 32, 33, 34, 35, 36, 37, 38, 39, 40, 41, 42, 43, 44, 45, 46, 47, 48, 49, 50, 51, 52, 53, 54, 55] rfl (by decide +kernel)
set_option maxRecDepth 20000 in
theorem gX9_draw_X9_all : GoodIn wsX9_draw (wsV RX9 169 RX9 yX9_all wsX9_all) := goodIn_app (goodIn_of _ (by decide +kernel)) ggX9_draw_X9_all
set_option maxRecDepth 20000 in
theorem ggX9_spill_X9_isTank : GoodIn wsX9_spill wsX9_isTank := goodIn_r _ [4] rfl (by decide +kernel)
set_option maxRecDepth 20000 in
theorem gX9_spill_X9_isTank : GoodIn wsX9_spill (va_wsS RX9 165 yX9_isTank wsX9_isTank) := goodIn_app (goodIn_of _ (by decide +kernel)) ggX9_spill_X9_isTank
set_option maxRecDepth 20000 in
theorem ggX9_spill_X9_all : GoodIn wsX9_spill wsX9_all := goodIn_r _ [8, 9, 10, 19, 20, 21, 22, 23, 24, 25, 26, 27, 28, 29, 30, 31, 32, 33, 34, 35, 36, 37, 38, 39, 40, 41, 42, 43, 44, 45, 46, 47, 48, 49, 50, 51, 52, 53, 54, 55, 56, 57, 58, 59, 60, 61, 62] rfl (by decide +kernel)
set_option maxRecDepth 20000 in
theorem gX9_spill_X9_all : GoodIn wsX9_spill (wsV RX9 169 RX9 yX9_all wsX9_all) := goodIn_app (goodIn_of _ (by decide +kernel)) ggX9_spill_X9_all
set_option maxRecDepth 20000 in
theorem ggX9_spill_X9_draw : GoodIn wsX9_spill wsX9_draw := goodIn_r _ [14, 9, 10, 15, 16, 17, 18, 5, 6, 7, 3, 8, 19, 20, 21, 22, 23, 24, 25, 26, 27, 28, 29, 30, 31, 32, 33, 34, 35, 36, 37, 38, 39, 40, 41, 42, 43, 44, 45, 46, 47, 48, 49, 50, 51, 52, 53, 54, 55, 56, 57, 58, 59, 60, 61, 62] rfl (by decide +kernel)
set_option maxRecDepth 20000 in
theorem gX9_spill_X9_draw : GoodIn wsX9_spill (wsV RX9 175 RX9 yX9_draw wsX9_draw) := goodIn_app (goodIn_of _ (by decide +kernel)) ggX9_spill_X9_draw
set_option maxRecDepth 20000 in
theorem ggX9_move_X9_isTank : GoodIn wsX9_move wsX9_isTank := goodIn_r _ [9] rfl (by decide +kernel)
set_option maxRecDepth 20000 in
theorem gX9_move_X9_isTank : GoodIn wsX9_move (va_wsS RX9 165 yX9_isTank wsX9_isTank) := goodIn_app (goodIn_of _ (by decide +kernel)) ggX9_move_X9_isTank
set_option maxRecDepth 20000 in
theorem ggX9_move_X9_all : GoodIn wsX9_move wsX9_all := goodIn_r _ [13, 3, 4, 20, 21, 22, 23, 24, 25, 26, 27, 28, 29, 30, 31, 32, 33, 34, 35, 36, 37, 38, 39, 40, 41, 42, 43, 44, 45, 46, 47, 48, 49, 50, 51, 52, 53, 54, 55, 56, 57, 58, 59, 60, 61, 62, 63] rfl (by decide +kernel)
set_option maxRecDepth 20000 in
theorem gX9_move_X9_all : GoodIn wsX9_move (wsV RX9 169 RX9 yX9_all wsX9_all) := goodIn_app (goodIn_of _ (by decide +kernel)) ggX9_move_X9_all
set_option maxRecDepth 20000 in
theorem ggX9_move_X9_draw : GoodIn wsX9_move wsX9_draw := goodIn_r _ [17, 3, 4, 5, 18, 19, 2, 10, 11, 12, 8, 13, 20, 21, 22, 23, 24, 25, 26, 27, 28, 29, 30, 31, 32, 33, 34, 35, 36, 37, 38, 39, 40, 41, 42, 43, 44, 45, 46, 47, 48, 49, 50, 51, 52, 53, 54, 55, 56, 57, 58, 59, 60, 61, 62, 63] rfl (by decide +kernel)
set_option maxRecDepth 20000 in
theorem gX9_move_X9_draw : GoodIn wsX9_move (wsV RX9 175 RX9 yX9_draw wsX9_draw) := goodIn_app (goodIn_of _ (by decide +kernel)) ggX9_move_X9_draw
set_option maxRecDepth 20000 in
theorem ggX9_jar_X9_isTank : GoodIn wsX9_jar wsX9_isTank := goodIn_r _ [12] rfl (by decide +kernel)
set_option maxRecDepth 20000 in
theorem gX9_jar_X9_isTank : GoodIn wsX9_jar (va_wsS RX9 165 yX9_isTank wsX9_isTank) := goodIn_app (goodIn_of _ (by decide +kernel)) ggX9_jar_X9_isTank
set_option maxRecDepth 20000 in
theorem ggX9_jar_X9_all : GoodIn wsX9_jar wsX9_all := goodIn_r _ [16, 7, 6, 23, 24, 25, 26, 27, 28, 29, 30, 31, 32, 33, 34, 35, 36, 37, 38, 39, 40, 41, 42, 43, 44, 45, 46, 47, 48, 49, 50, 51, 52, 53, 54, 55, 56, 57, 58, 59, 60, 61, 62, 63, 64, 65, 66] rfl (by decide +kernel)
set_option maxRecDepth 20000 in
theorem gX9_jar_X9_all : GoodIn wsX9_jar (wsV RX9 169 RX9 yX9_all wsX9_all) := goodIn_app (goodIn_of _ (by decide +kernel)) ggX9_jar_X9_all
set_option maxRecDepth 20000 in
theorem ggX9_jar_X9_draw : GoodIn wsX9_jar wsX9_draw := goodIn_r _ [20, 7, 6, 8, 21, 22, 2, 13, 14, 15, 11, 16, 23, 24, 25, 26, 27, 28, 29, 30, 31, 32, 33, 34, 35, 36, 37, 38, 39, 40, 41, 42, 43, 44, 45, 46, 47, 48, 49, 50, 51, 52, 53, 54, 55, 56, 57, 58, 59, 60, 61, 62, 63, 64, 65, 66] rfl (by decide +kernel)
set_option maxRecDepth 20000 in
theorem gX9_jar_X9_draw : GoodIn wsX9_jar (wsV RX9 175 RX9 yX9_draw wsX9_draw) := goodIn_app (goodIn_of _ (by decide +kernel)) ggX9_jar_X9_draw
set_option maxRecDepth 20000 in
theorem ggX9_trace_X9_isLot : GoodIn wsX9_trace wsX9_isLot := goodIn_r _ [9, 10, 11, 12, 13, 14, 15, 16, 17, 18, 19, 20, 21, 22, 23, 24, 25, 26, 27, 28, 29, 30, 31, 32, 33, 34, 35, 36, 37, 38, 39, 40, 41, 42, 43, 44, 45, 46, 47, 48, 49, 50, 51, 52, 53, 54] rfl (by decide +kernel)
set_option maxRecDepth 20000 in
theorem gX9_trace_X9_isLot : GoodIn wsX9_trace (wsV RX9 160 RX9 yX9_isLot wsX9_isLot) := goodIn_app (goodIn_of _ (by decide +kernel)) ggX9_trace_X9_isLot
set_option maxHeartbeats 4000000 in
set_option maxRecDepth 100000 in
theorem m_put (l : Launch) (D : va_G) (h0 : Nat) (ad : Nat → Nat) (cs : Nat → ClassId) (iv : Nat → Int32) (fv : Nat → Nat → Int32) (gv : Nat → Int64) (n1 : Nat) (a1 : Int32) (sz : Nat) (h1 : iv 1 = nI n1) (b1 : n1 + 4 ≤ 400) : Met l yX9_put wsX9_put ({ frames := 0, cells := 0, slots := 0, locals := 0 }) (va_Pc [.ref h0, .int a1] (fun U => U.heap.size = sz ∧ va_P D vwCl (mw h0 ad cs iv fv gv) U.heap ∧ va_K D vwCl (mT cs) U ∧ va_D (fun _ => True) (mw h0 ad cs iv fv gv))) (va_Qv (fun _ : Unit => True) (fun (_ : Unit) (t : State) => ∃ (f0 : Nat → Int32), va_P D vwCl (mw h0 ad cs (upd iv 1 (nI (n1 + 4))) (uF fv 0 f0) gv) t.heap ∧ va_K D vwCl (mT cs) t ∧ va_D (va_A (mw h0 ad cs iv fv gv) sz) (mw h0 ad cs (upd iv 1 (nI (n1 + 4))) (uF fv 0 f0) gv)) (va_A (mw h0 ad cs iv fv gv) sz)) 0 0 (va_A (mw h0 ad cs iv fv gv) sz) := by
  refine Met.ofW (cc := cX9_put) (maxL := 3) (ret := none) (by decide) rfl ?_
  intro p e s m args below meth c s₁ B hml hv
  obtain ⟨rfl, hsz, hP, hK, hD0⟩ := hv
  have hx := B.exec
  have hb := B.bytes
  have hr := B.returns
  have hts := atoms_spec (ws := wsX9_put) B.pre
  have hown : s.vm.findClass RX9 = some m.cls := findClass_of_methodNamed B.named
  have hlocks := B.notSynchronized
  subst hsz
  have hD := hD0.self (sz := s.heap.size)
  generalize hAe : va_A (mw h0 ad cs iv fv gv) s.heap.size = A at hD ⊢
  have hA : ∀ q : Nat, s.heap.size ≤ q → A q := fun q h => by rw [← hAe]; exact Or.inr h
  have hS : va_S A s.heap s.heap [] := va_S.rf
  have hin9 : ∀ w ∈ u_ws RX9 TX9 44, w ∈ wsX9_put := (fun _ h9 => List.mem_cons_of_mem _ ((List.mem_append_right _ h9)))
  have hl := lv_entry ([.ref h0, .int a1]) (n := 3) (Nat.le_of_ble_eq_true rfl)
  rw [lg_entry_eq]
  generalize (lg_sl ([.ref h0, .int a1]) ++ List.replicate (3 - (lg_sl ([.ref h0, .int a1])).length) Slot.unset).toArray = ls at hl ⊢
  have hl : lv_has ls 3 [(0, .ref h0), (1, .int a1)] := hl
  refine lv_bipush (v := 24) hx hb dX9_put_0 (by decide) ?_
  refine lv_istore_n (lv' := [(2, .int 24), (0, .ref h0), (1, .int a1)]) hx hb dX9_put_2 rfl hl (by decide) rfl (fun ls hl => ?_)
  refine lv_iload_n hx hb dX9_put_3 rfl (lv_at hl 0 rfl) ?_
  refine lv_if_lt (tgt := 39) hx hb dX9_put_4 (by decide) (fun c_1 => absurd c_1 (by decide)) (fun c_1 => ?_)
  refine lv_aload_n hx hb dX9_put_7 rfl (lv_at hl 1 rfl) ?_
  refine va_get (D := D) (ci := 9) (v := .ref (ad 0)) (C := RX9) (T := TX9) (N := 44) hx hb hts hin9 hown hK hP 0 rfl rfl 0 (by decide) (hts (.fieldLink RX9 7 "HoneyHouseModel" "tape" "[I") (List.mem_of_getElem? (i := 1) rfl)) (fun _ h9 => h9) rfl dX9_put_8 ?_
  refine lv_aload_n hx hb dX9_put_11 rfl (lv_at hl 1 rfl) ?_
  refine va_get (D := D) (ci := 9) (v := .int (iv 1)) (C := RX9) (T := TX9) (N := 44) hx hb hts hin9 hown hK hP 0 rfl rfl 1 (by decide) (hts (.fieldLink RX9 13 "HoneyHouseModel" "taped" "I") (List.mem_of_getElem? (i := 2) rfl)) (fun _ h9 => h9) rfl dX9_put_12 ?_
  refine tp_i (y := nI n1) (h1) ?_
  refine lv_iload_n hx hb dX9_put_15 rfl (lv_at hl 2 rfl) ?_
  refine lv_iload_n hx hb dX9_put_16 rfl (lv_at hl 0 rfl) ?_
  refine lv_ishr hx hb dX9_put_17 ?_
  refine lv_sipush (v := 255) hx hb dX9_put_18 (by decide) ?_
  refine lv_iand hx hb dX9_put_21 ?_
  refine va_iast (f := fv 0) (n := 400) hx hb hK hP hD hS 1 0 rfl rfl (vp_in_nI (n := n1) (by omega) (by omega)) dX9_put_22 (fun H locs hP hD hS => ?_)
  have hP : va_P D vwCl (mw h0 ad cs iv (uF fv 0 (upd (fv 0) (nI n1).toNatClampNeg ((a1 >>> (24 &&& 31)) &&& 255))) gv) H := hP
  have hD : va_D A (mw h0 ad cs iv (uF fv 0 (upd (fv 0) (nI n1).toNatClampNeg ((a1 >>> (24 &&& 31)) &&& 255))) gv) := hD
  obtain ⟨f_2, hf_3⟩ : ∃ g9, g9 = upd (fv 0) (nI n1).toNatClampNeg ((a1 >>> (24 &&& 31)) &&& 255) := ⟨_, rfl⟩
  rw [← hf_3] at hP hD
  rw [nI_clamp (n := n1) (by omega)] at hf_3
  refine lv_aload_n hx hb dX9_put_23 rfl (lv_at hl 1 rfl) ?_
  refine lv_dup hx hb dX9_put_24 rfl ?_
  refine va_get (D := D) (ci := 9) (v := .int (iv 1)) (C := RX9) (T := TX9) (N := 44) hx hb hts hin9 hown hK hP 0 rfl rfl 1 (by decide) (hts (.fieldLink RX9 13 "HoneyHouseModel" "taped" "I") (List.mem_of_getElem? (i := 2) rfl)) (fun _ h9 => h9) rfl dX9_put_25 ?_
  refine tp_i (y := nI n1) (h1) ?_
  refine lv_iconst (v := 1) hx hb dX9_put_28 (by decide) ?_
  refine lv_iadd hx hb dX9_put_29 ?_
  refine tp_i (y := nI (n1 + 1)) (nI_add n1 1) ?_
  refine va_put (D := D) (ci := 9) (v := .int (nI (n1 + 1))) (ty := .int) (C := RX9) (T := TX9) (N := 44) hx hb hts hin9 tyX9 tyX9_ok nmX9 hown hK hP hD hS 0 rfl rfl 1 (by decide) (hts (.fieldLink RX9 13 "HoneyHouseModel" "taped" "I") (List.mem_of_getElem? (i := 2) rfl)) (fun _ h9 => h9) rfl (tyX9_ok 1 (by decide)) rfl rfl (Nat.le_of_ble_eq_true rfl) dX9_put_30 (fun H locs hP hD hS => ?_)
  have hP : va_P D vwCl (mw h0 ad cs (upd iv 1 (nI (n1 + 1))) (uF fv 0 f_2) gv) H := hP
  have hD : va_D A (mw h0 ad cs (upd iv 1 (nI (n1 + 1))) (uF fv 0 f_2) gv) := hD
  refine lv_iinc (v := 16) (lv' := [(2, .int 16), (0, .ref h0), (1, .int a1)]) hx hb dX9_put_33 hl (k := 0) rfl (by decide) (by decide) rfl (fun ls hl => ?_)
  refine lv_goto (tgt := 3) hx hb dX9_put_36 (by decide) ?_
  refine lv_iload_n hx hb dX9_put_3 rfl (lv_at hl 0 rfl) ?_
  refine lv_if_lt (tgt := 39) hx hb dX9_put_4 (by decide) (fun c_4 => absurd c_4 (by decide)) (fun c_4 => ?_)
  refine lv_aload_n hx hb dX9_put_7 rfl (lv_at hl 1 rfl) ?_
  refine va_get (D := D) (ci := 9) (v := .ref (ad 0)) (C := RX9) (T := TX9) (N := 44) hx hb hts hin9 hown hK hP 0 rfl rfl 0 (by decide) (hts (.fieldLink RX9 7 "HoneyHouseModel" "tape" "[I") (List.mem_of_getElem? (i := 1) rfl)) (fun _ h9 => h9) rfl dX9_put_8 ?_
  refine lv_aload_n hx hb dX9_put_11 rfl (lv_at hl 1 rfl) ?_
  refine va_get (D := D) (ci := 9) (v := .int (nI (n1 + 1))) (C := RX9) (T := TX9) (N := 44) hx hb hts hin9 hown hK hP 0 rfl rfl 1 (by decide) (hts (.fieldLink RX9 13 "HoneyHouseModel" "taped" "I") (List.mem_of_getElem? (i := 2) rfl)) (fun _ h9 => h9) rfl dX9_put_12 ?_
  refine lv_iload_n hx hb dX9_put_15 rfl (lv_at hl 2 rfl) ?_
  refine lv_iload_n hx hb dX9_put_16 rfl (lv_at hl 0 rfl) ?_
  refine lv_ishr hx hb dX9_put_17 ?_
  refine lv_sipush (v := 255) hx hb dX9_put_18 (by decide) ?_
  refine lv_iand hx hb dX9_put_21 ?_
  refine va_iast (f := f_2) (n := 400) hx hb hK hP hD hS 1 0 rfl rfl (vp_in_nI (n := n1 + 1) (by omega) (by omega)) dX9_put_22 (fun H locs hP hD hS => ?_)
  have hP : va_P D vwCl (mw h0 ad cs (upd iv 1 (nI (n1 + 1))) (uF fv 0 (upd f_2 (nI (n1 + 1)).toNatClampNeg ((a1 >>> (16 &&& 31)) &&& 255))) gv) H := hP
  have hD : va_D A (mw h0 ad cs (upd iv 1 (nI (n1 + 1))) (uF fv 0 (upd f_2 (nI (n1 + 1)).toNatClampNeg ((a1 >>> (16 &&& 31)) &&& 255))) gv) := hD
  obtain ⟨f_5, hf_6⟩ : ∃ g9, g9 = upd f_2 (nI (n1 + 1)).toNatClampNeg ((a1 >>> (16 &&& 31)) &&& 255) := ⟨_, rfl⟩
  rw [← hf_6] at hP hD
  rw [nI_clamp (n := n1 + 1) (by omega)] at hf_6
  refine lv_aload_n hx hb dX9_put_23 rfl (lv_at hl 1 rfl) ?_
  refine lv_dup hx hb dX9_put_24 rfl ?_
  refine va_get (D := D) (ci := 9) (v := .int (nI (n1 + 1))) (C := RX9) (T := TX9) (N := 44) hx hb hts hin9 hown hK hP 0 rfl rfl 1 (by decide) (hts (.fieldLink RX9 13 "HoneyHouseModel" "taped" "I") (List.mem_of_getElem? (i := 2) rfl)) (fun _ h9 => h9) rfl dX9_put_25 ?_
  refine lv_iconst (v := 1) hx hb dX9_put_28 (by decide) ?_
  refine lv_iadd hx hb dX9_put_29 ?_
  refine tp_i (y := nI ((n1 + 1) + 1)) (nI_add (n1 + 1) 1) ?_
  refine va_put (D := D) (ci := 9) (v := .int (nI ((n1 + 1) + 1))) (ty := .int) (C := RX9) (T := TX9) (N := 44) hx hb hts hin9 tyX9 tyX9_ok nmX9 hown hK hP hD hS 0 rfl rfl 1 (by decide) (hts (.fieldLink RX9 13 "HoneyHouseModel" "taped" "I") (List.mem_of_getElem? (i := 2) rfl)) (fun _ h9 => h9) rfl (tyX9_ok 1 (by decide)) rfl rfl (Nat.le_of_ble_eq_true rfl) dX9_put_30 (fun H locs hP hD hS => ?_)
  have hP : va_P D vwCl (mw h0 ad cs (upd iv 1 (nI ((n1 + 1) + 1))) (uF fv 0 f_5) gv) H := hP
  have hD : va_D A (mw h0 ad cs (upd iv 1 (nI ((n1 + 1) + 1))) (uF fv 0 f_5) gv) := hD
  refine lv_iinc (v := 8) (lv' := [(2, .int 8), (0, .ref h0), (1, .int a1)]) hx hb dX9_put_33 hl (k := 0) rfl (by decide) (by decide) rfl (fun ls hl => ?_)
  refine lv_goto (tgt := 3) hx hb dX9_put_36 (by decide) ?_
  refine lv_iload_n hx hb dX9_put_3 rfl (lv_at hl 0 rfl) ?_
  refine lv_if_lt (tgt := 39) hx hb dX9_put_4 (by decide) (fun c_7 => absurd c_7 (by decide)) (fun c_7 => ?_)
  refine lv_aload_n hx hb dX9_put_7 rfl (lv_at hl 1 rfl) ?_
  refine va_get (D := D) (ci := 9) (v := .ref (ad 0)) (C := RX9) (T := TX9) (N := 44) hx hb hts hin9 hown hK hP 0 rfl rfl 0 (by decide) (hts (.fieldLink RX9 7 "HoneyHouseModel" "tape" "[I") (List.mem_of_getElem? (i := 1) rfl)) (fun _ h9 => h9) rfl dX9_put_8 ?_
  refine lv_aload_n hx hb dX9_put_11 rfl (lv_at hl 1 rfl) ?_
  refine va_get (D := D) (ci := 9) (v := .int (nI ((n1 + 1) + 1))) (C := RX9) (T := TX9) (N := 44) hx hb hts hin9 hown hK hP 0 rfl rfl 1 (by decide) (hts (.fieldLink RX9 13 "HoneyHouseModel" "taped" "I") (List.mem_of_getElem? (i := 2) rfl)) (fun _ h9 => h9) rfl dX9_put_12 ?_
  refine lv_iload_n hx hb dX9_put_15 rfl (lv_at hl 2 rfl) ?_
  refine lv_iload_n hx hb dX9_put_16 rfl (lv_at hl 0 rfl) ?_
  refine lv_ishr hx hb dX9_put_17 ?_
  refine lv_sipush (v := 255) hx hb dX9_put_18 (by decide) ?_
  refine lv_iand hx hb dX9_put_21 ?_
  refine va_iast (f := f_5) (n := 400) hx hb hK hP hD hS 1 0 rfl rfl (vp_in_nI (n := (n1 + 1) + 1) (by omega) (by omega)) dX9_put_22 (fun H locs hP hD hS => ?_)
  have hP : va_P D vwCl (mw h0 ad cs (upd iv 1 (nI ((n1 + 1) + 1))) (uF fv 0 (upd f_5 (nI ((n1 + 1) + 1)).toNatClampNeg ((a1 >>> (8 &&& 31)) &&& 255))) gv) H := hP
  have hD : va_D A (mw h0 ad cs (upd iv 1 (nI ((n1 + 1) + 1))) (uF fv 0 (upd f_5 (nI ((n1 + 1) + 1)).toNatClampNeg ((a1 >>> (8 &&& 31)) &&& 255))) gv) := hD
  obtain ⟨f_8, hf_9⟩ : ∃ g9, g9 = upd f_5 (nI ((n1 + 1) + 1)).toNatClampNeg ((a1 >>> (8 &&& 31)) &&& 255) := ⟨_, rfl⟩
  rw [← hf_9] at hP hD
  rw [nI_clamp (n := (n1 + 1) + 1) (by omega)] at hf_9
  refine lv_aload_n hx hb dX9_put_23 rfl (lv_at hl 1 rfl) ?_
  refine lv_dup hx hb dX9_put_24 rfl ?_
  refine va_get (D := D) (ci := 9) (v := .int (nI ((n1 + 1) + 1))) (C := RX9) (T := TX9) (N := 44) hx hb hts hin9 hown hK hP 0 rfl rfl 1 (by decide) (hts (.fieldLink RX9 13 "HoneyHouseModel" "taped" "I") (List.mem_of_getElem? (i := 2) rfl)) (fun _ h9 => h9) rfl dX9_put_25 ?_
  refine lv_iconst (v := 1) hx hb dX9_put_28 (by decide) ?_
  refine lv_iadd hx hb dX9_put_29 ?_
  refine tp_i (y := nI (((n1 + 1) + 1) + 1)) (nI_add ((n1 + 1) + 1) 1) ?_
  refine va_put (D := D) (ci := 9) (v := .int (nI (((n1 + 1) + 1) + 1))) (ty := .int) (C := RX9) (T := TX9) (N := 44) hx hb hts hin9 tyX9 tyX9_ok nmX9 hown hK hP hD hS 0 rfl rfl 1 (by decide) (hts (.fieldLink RX9 13 "HoneyHouseModel" "taped" "I") (List.mem_of_getElem? (i := 2) rfl)) (fun _ h9 => h9) rfl (tyX9_ok 1 (by decide)) rfl rfl (Nat.le_of_ble_eq_true rfl) dX9_put_30 (fun H locs hP hD hS => ?_)
  have hP : va_P D vwCl (mw h0 ad cs (upd iv 1 (nI (((n1 + 1) + 1) + 1))) (uF fv 0 f_8) gv) H := hP
  have hD : va_D A (mw h0 ad cs (upd iv 1 (nI (((n1 + 1) + 1) + 1))) (uF fv 0 f_8) gv) := hD
  refine lv_iinc (v := 0) (lv' := [(2, .int 0), (0, .ref h0), (1, .int a1)]) hx hb dX9_put_33 hl (k := 0) rfl (by decide) (by decide) rfl (fun ls hl => ?_)
  refine lv_goto (tgt := 3) hx hb dX9_put_36 (by decide) ?_
  refine lv_iload_n hx hb dX9_put_3 rfl (lv_at hl 0 rfl) ?_
  refine lv_if_lt (tgt := 39) hx hb dX9_put_4 (by decide) (fun c_10 => absurd c_10 (by decide)) (fun c_10 => ?_)
  refine lv_aload_n hx hb dX9_put_7 rfl (lv_at hl 1 rfl) ?_
  refine va_get (D := D) (ci := 9) (v := .ref (ad 0)) (C := RX9) (T := TX9) (N := 44) hx hb hts hin9 hown hK hP 0 rfl rfl 0 (by decide) (hts (.fieldLink RX9 7 "HoneyHouseModel" "tape" "[I") (List.mem_of_getElem? (i := 1) rfl)) (fun _ h9 => h9) rfl dX9_put_8 ?_
  refine lv_aload_n hx hb dX9_put_11 rfl (lv_at hl 1 rfl) ?_
  refine va_get (D := D) (ci := 9) (v := .int (nI (((n1 + 1) + 1) + 1))) (C := RX9) (T := TX9) (N := 44) hx hb hts hin9 hown hK hP 0 rfl rfl 1 (by decide) (hts (.fieldLink RX9 13 "HoneyHouseModel" "taped" "I") (List.mem_of_getElem? (i := 2) rfl)) (fun _ h9 => h9) rfl dX9_put_12 ?_
  refine lv_iload_n hx hb dX9_put_15 rfl (lv_at hl 2 rfl) ?_
  refine lv_iload_n hx hb dX9_put_16 rfl (lv_at hl 0 rfl) ?_
  refine lv_ishr hx hb dX9_put_17 ?_
  refine lv_sipush (v := 255) hx hb dX9_put_18 (by decide) ?_
  refine lv_iand hx hb dX9_put_21 ?_
  refine va_iast (f := f_8) (n := 400) hx hb hK hP hD hS 1 0 rfl rfl (vp_in_nI (n := ((n1 + 1) + 1) + 1) (by omega) (by omega)) dX9_put_22 (fun H locs hP hD hS => ?_)
  have hP : va_P D vwCl (mw h0 ad cs (upd iv 1 (nI (((n1 + 1) + 1) + 1))) (uF fv 0 (upd f_8 (nI (((n1 + 1) + 1) + 1)).toNatClampNeg ((a1 >>> (0 &&& 31)) &&& 255))) gv) H := hP
  have hD : va_D A (mw h0 ad cs (upd iv 1 (nI (((n1 + 1) + 1) + 1))) (uF fv 0 (upd f_8 (nI (((n1 + 1) + 1) + 1)).toNatClampNeg ((a1 >>> (0 &&& 31)) &&& 255))) gv) := hD
  obtain ⟨f_11, hf_12⟩ : ∃ g9, g9 = upd f_8 (nI (((n1 + 1) + 1) + 1)).toNatClampNeg ((a1 >>> (0 &&& 31)) &&& 255) := ⟨_, rfl⟩
  rw [← hf_12] at hP hD
  rw [nI_clamp (n := ((n1 + 1) + 1) + 1) (by omega)] at hf_12
  refine lv_aload_n hx hb dX9_put_23 rfl (lv_at hl 1 rfl) ?_
  refine lv_dup hx hb dX9_put_24 rfl ?_
  refine va_get (D := D) (ci := 9) (v := .int (nI (((n1 + 1) + 1) + 1))) (C := RX9) (T := TX9) (N := 44) hx hb hts hin9 hown hK hP 0 rfl rfl 1 (by decide) (hts (.fieldLink RX9 13 "HoneyHouseModel" "taped" "I") (List.mem_of_getElem? (i := 2) rfl)) (fun _ h9 => h9) rfl dX9_put_25 ?_
  refine lv_iconst (v := 1) hx hb dX9_put_28 (by decide) ?_
  refine lv_iadd hx hb dX9_put_29 ?_
  refine tp_i (y := nI ((((n1 + 1) + 1) + 1) + 1)) (nI_add (((n1 + 1) + 1) + 1) 1) ?_
  refine va_put (D := D) (ci := 9) (v := .int (nI ((((n1 + 1) + 1) + 1) + 1))) (ty := .int) (C := RX9) (T := TX9) (N := 44) hx hb hts hin9 tyX9 tyX9_ok nmX9 hown hK hP hD hS 0 rfl rfl 1 (by decide) (hts (.fieldLink RX9 13 "HoneyHouseModel" "taped" "I") (List.mem_of_getElem? (i := 2) rfl)) (fun _ h9 => h9) rfl (tyX9_ok 1 (by decide)) rfl rfl (Nat.le_of_ble_eq_true rfl) dX9_put_30 (fun H locs hP hD hS => ?_)
  have hP : va_P D vwCl (mw h0 ad cs (upd iv 1 (nI ((((n1 + 1) + 1) + 1) + 1))) (uF fv 0 f_11) gv) H := hP
  have hD : va_D A (mw h0 ad cs (upd iv 1 (nI ((((n1 + 1) + 1) + 1) + 1))) (uF fv 0 f_11) gv) := hD
  refine lv_iinc (v := (-8)) (lv' := [(2, .int (-8)), (0, .ref h0), (1, .int a1)]) hx hb dX9_put_33 hl (k := 0) rfl (by decide) (by decide) rfl (fun ls hl => ?_)
  refine lv_goto (tgt := 3) hx hb dX9_put_36 (by decide) ?_
  refine lv_iload_n hx hb dX9_put_3 rfl (lv_at hl 0 rfl) ?_
  refine lv_if_lt (tgt := 39) hx hb dX9_put_4 (by decide) (fun c_13 => ?_) (fun c_13 => absurd (by decide) c_13)
  have hP : va_P D vwCl (mw h0 ad cs (upd iv 1 (nI (n1 + 4))) (uF fv 0 f_11) gv) H := hP
  have hD : va_D A (mw h0 ad cs (upd iv 1 (nI (n1 + 4))) (uF fv 0 f_11) gv) := hD
  exact W.vret hx hb hr (fun t ht hW => ⟨⟨(), rfl, trivial, f_11, by rw [ht]; exact hP, va_K.moved hW.alike hK, hD⟩, hS.F ht⟩) hS.2.2 dX9_put_39
set_option maxHeartbeats 4000000 in
set_option maxRecDepth 100000 in
theorem m_feed (l : Launch) (D : va_G) (h0 : Nat) (ad : Nat → Nat) (cs : Nat → ClassId) (iv : Nat → Int32) (fv : Nat → Nat → Int32) (gv : Nat → Int64) (n1 : Nat) (a1 a2 a3 a4 a5 : Int32) (sz : Nat) (h1 : iv 1 = nI n1) (b1 : n1 ≤ 400) : Met l yX9_feed wsX9_feed ({ frames := 1, cells := 0, slots := 0, locals := 22 }) (va_Pc [.ref h0, .int a1, .int a2, .int a3, .int a4, .int a5] (fun U => U.heap.size = sz ∧ va_P D vwCl (mw h0 ad cs iv fv gv) U.heap ∧ va_K D vwCl (mT cs) U ∧ va_D (fun _ => True) (mw h0 ad cs iv fv gv))) (va_Qi (fun (r u : Int32) => r = u) (fun (r : Int32) (t : State) => ∃ (k1 : Nat) (f0 : Nat → Int32), (k1 = if 380 < n1 then n1 else n1 + 20) ∧ (r = if 380 < n1 then (-1) else nI (n1 + 20)) ∧ va_P D vwCl (mw h0 ad cs (upd iv 1 (nI k1)) (uF fv 0 f0) gv) t.heap ∧ va_K D vwCl (mT cs) t ∧ va_D (va_A (mw h0 ad cs iv fv gv) sz) (mw h0 ad cs (upd iv 1 (nI k1)) (uF fv 0 f0) gv)) (va_A (mw h0 ad cs iv fv gv) sz)) 0 0 (va_A (mw h0 ad cs iv fv gv) sz) := by
  refine Met.ofW (cc := cX9_feed) (maxL := 6) (ret := (some .int)) (by decide) rfl ?_
  intro p e s m args below meth c s₁ B hml hv
  obtain ⟨rfl, hsz, hP, hK, hD0⟩ := hv
  have hx := B.exec
  have hb := B.bytes
  have hr := B.returns
  have hts := atoms_spec (ws := wsX9_feed) B.pre
  have hown : s.vm.findClass RX9 = some m.cls := findClass_of_methodNamed B.named
  have hlocks := B.notSynchronized
  subst hsz
  have hD := hD0.self (sz := s.heap.size)
  generalize hAe : va_A (mw h0 ad cs iv fv gv) s.heap.size = A at hD ⊢
  have hA : ∀ q : Nat, s.heap.size ≤ q → A q := fun q h => by rw [← hAe]; exact Or.inr h
  have hS : va_S A s.heap s.heap [] := va_S.rf
  have hin9 : ∀ w ∈ u_ws RX9 TX9 44, w ∈ wsX9_feed := (fun _ h9 => List.mem_cons_of_mem _ ((List.mem_append_right _ h9)))
  have hl := lv_entry ([.ref h0, .int a1, .int a2, .int a3, .int a4, .int a5]) (n := 6) (Nat.le_of_ble_eq_true rfl)
  rw [lg_entry_eq]
  generalize (lg_sl ([.ref h0, .int a1, .int a2, .int a3, .int a4, .int a5]) ++ List.replicate (6 - (lg_sl ([.ref h0, .int a1, .int a2, .int a3, .int a4, .int a5])).length) Slot.unset).toArray = ls at hl ⊢
  have hl : lv_has ls 6 [(0, .ref h0), (1, .int a1), (2, .int a2), (3, .int a3), (4, .int a4), (5, .int a5)] := hl
  refine lv_aload_n hx hb dX9_feed_0 rfl (lv_at hl 0 rfl) ?_
  refine va_get (D := D) (ci := 9) (v := .int (iv 1)) (C := RX9) (T := TX9) (N := 44) hx hb hts hin9 hown hK hP 0 rfl rfl 1 (by decide) (hts (.fieldLink RX9 13 "HoneyHouseModel" "taped" "I") (List.mem_of_getElem? (i := 1) rfl)) (fun _ h9 => h9) rfl dX9_feed_1 ?_
  refine tp_i (y := nI n1) (h1) ?_
  refine lv_bipush (v := 20) hx hb dX9_feed_4 (by decide) ?_
  refine lv_iadd hx hb dX9_feed_6 ?_
  refine tp_i (y := nI (n1 + 20)) (nI_add n1 20) ?_
  refine lv_sipush (v := 400) hx hb dX9_feed_7 (by decide) ?_
  refine lv_icmp_le (tgt := 15) hx hb dX9_feed_10 (by decide) (fun c_1 => ?_) (fun c_1 => ?_)
  · have d_2 := n_le (a := n1 + 20) (b := 400) (by omega) (by omega) c_1
    refine lv_aload_n hx hb dX9_feed_15 rfl (lv_at hl 0 rfl) ?_
    refine lv_iload_n hx hb dX9_feed_16 rfl (lv_at hl 1 rfl) ?_
    have hFc := free_all hD hS hA
    refine va_callv (va_runV (As := [.int a1]) (rest := []) ⟨hx, hb, hml, hown, hts⟩ (m_put l D h0 ad cs iv fv gv n1 a1 s.heap.size h1 (by omega)) (cwV 1 hts gX9_feed_X9_put rfl rfl rfl (by decide +kernel) ⟨Nat.le_of_ble_eq_true rfl, Nat.le_of_ble_eq_true rfl⟩) ⟨fun a U g mk q => by obtain ⟨q0, q1, qP, qK, qD⟩ := q; exact ⟨q0, q1, qP, va_K.moved (u := U) (U := U.calling g mk a) (Vm.Alike.refl U.vm) qK, qD⟩, va_recv hK hP (ci := 9) (q0 := 0) rfl rfl, fun U hU hW => ⟨rfl, by rw [hU], by rw [hU]; exact hP, va_K.moved hW.alike hK, hD.weaken (fun _ _ _ _ => trivial)⟩⟩ rfl rfl hl.1 rfl (lv_room (Nat.le_of_ble_eq_true rfl)) dX9_feed_17 ⟨Nat.le_of_ble_eq_true rfl, Nat.le_of_ble_eq_true rfl⟩) hS (fun q _ h => hFc q h) hFc (fun u t H1 locs ht hvm w_4 hB hz1 hk1 hS => ?_)
    obtain ⟨f0_5, hP1, hK1, hD1⟩ := hB
    rw [ht] at hP1
    have hK := va_K.moved hvm.symm hK1
    generalize H1 = H at hP1 hS ⊢
    have hP : va_P D vwCl (mw h0 ad cs (upd iv 1 (nI (n1 + 4))) (uF fv 0 f0_5) gv) H := hP1
    have hD : va_D A (mw h0 ad cs (upd iv 1 (nI (n1 + 4))) (uF fv 0 f0_5) gv) := hD1.weaken (fun _ _ _ h => hFc _ h)
    refine lv_aload_n hx hb dX9_feed_20 rfl (lv_at hl 0 rfl) ?_
    refine lv_iload_n hx hb dX9_feed_21 rfl (lv_at hl 2 rfl) ?_
    have hFc := free_all hD hS hA
    refine va_callv (va_runV (As := [.int a2]) (rest := []) ⟨hx, hb, hml, hown, hts⟩ (m_put l D h0 ad cs (upd iv 1 (nI (n1 + 4))) (uF fv 0 f0_5) gv (n1 + 4) a2 H.size rfl (by omega)) (cwV 1 hts gX9_feed_X9_put rfl rfl rfl (by decide +kernel) ⟨Nat.le_of_ble_eq_true rfl, Nat.le_of_ble_eq_true rfl⟩) ⟨fun a U g mk q => by obtain ⟨q0, q1, qP, qK, qD⟩ := q; exact ⟨q0, q1, qP, va_K.moved (u := U) (U := U.calling g mk a) (Vm.Alike.refl U.vm) qK, qD⟩, va_recv hK hP (ci := 9) (q0 := 0) rfl rfl, fun U hU hW => ⟨rfl, by rw [hU], by rw [hU]; exact hP, va_K.moved hW.alike hK, hD.weaken (fun _ _ _ _ => trivial)⟩⟩ rfl rfl hl.1 rfl (lv_room (Nat.le_of_ble_eq_true rfl)) dX9_feed_22 ⟨Nat.le_of_ble_eq_true rfl, Nat.le_of_ble_eq_true rfl⟩) hS (fun q _ h => hFc q h) hFc (fun u t H1 locs ht hvm w_7 hB hz1 hk1 hS => ?_)
    obtain ⟨f0_8, hP1, hK1, hD1⟩ := hB
    rw [ht] at hP1
    have hK := va_K.moved hvm.symm hK1
    generalize H1 = H at hP1 hS ⊢
    have hP : va_P D vwCl (mw h0 ad cs (upd iv 1 (nI ((n1 + 4) + 4))) (uF fv 0 f0_8) gv) H := hP1
    have hD : va_D A (mw h0 ad cs (upd iv 1 (nI ((n1 + 4) + 4))) (uF fv 0 f0_8) gv) := hD1.weaken (fun _ _ _ h => hFc _ h)
    refine lv_aload_n hx hb dX9_feed_25 rfl (lv_at hl 0 rfl) ?_
    refine lv_iload_n hx hb dX9_feed_26 rfl (lv_at hl 3 rfl) ?_
    have hFc := free_all hD hS hA
    refine va_callv (va_runV (As := [.int a3]) (rest := []) ⟨hx, hb, hml, hown, hts⟩ (m_put l D h0 ad cs (upd iv 1 (nI ((n1 + 4) + 4))) (uF fv 0 f0_8) gv ((n1 + 4) + 4) a3 H.size rfl (by omega)) (cwV 1 hts gX9_feed_X9_put rfl rfl rfl (by decide +kernel) ⟨Nat.le_of_ble_eq_true rfl, Nat.le_of_ble_eq_true rfl⟩) ⟨fun a U g mk q => by obtain ⟨q0, q1, qP, qK, qD⟩ := q; exact ⟨q0, q1, qP, va_K.moved (u := U) (U := U.calling g mk a) (Vm.Alike.refl U.vm) qK, qD⟩, va_recv hK hP (ci := 9) (q0 := 0) rfl rfl, fun U hU hW => ⟨rfl, by rw [hU], by rw [hU]; exact hP, va_K.moved hW.alike hK, hD.weaken (fun _ _ _ _ => trivial)⟩⟩ rfl rfl hl.1 rfl (lv_room (Nat.le_of_ble_eq_true rfl)) dX9_feed_27 ⟨Nat.le_of_ble_eq_true rfl, Nat.le_of_ble_eq_true rfl⟩) hS (fun q _ h => hFc q h) hFc (fun u t H1 locs ht hvm w_10 hB hz1 hk1 hS => ?_)
    obtain ⟨f0_11, hP1, hK1, hD1⟩ := hB
    rw [ht] at hP1
    have hK := va_K.moved hvm.symm hK1
    generalize H1 = H at hP1 hS ⊢
    have hP : va_P D vwCl (mw h0 ad cs (upd iv 1 (nI (((n1 + 4) + 4) + 4))) (uF fv 0 f0_11) gv) H := hP1
    have hD : va_D A (mw h0 ad cs (upd iv 1 (nI (((n1 + 4) + 4) + 4))) (uF fv 0 f0_11) gv) := hD1.weaken (fun _ _ _ h => hFc _ h)
    refine lv_aload_n hx hb dX9_feed_30 rfl (lv_at hl 0 rfl) ?_
    refine lv_iload hx hb dX9_feed_31 (lv_at hl 4 rfl) ?_
    have hFc := free_all hD hS hA
    refine va_callv (va_runV (As := [.int a4]) (rest := []) ⟨hx, hb, hml, hown, hts⟩ (m_put l D h0 ad cs (upd iv 1 (nI (((n1 + 4) + 4) + 4))) (uF fv 0 f0_11) gv (((n1 + 4) + 4) + 4) a4 H.size rfl (by omega)) (cwV 1 hts gX9_feed_X9_put rfl rfl rfl (by decide +kernel) ⟨Nat.le_of_ble_eq_true rfl, Nat.le_of_ble_eq_true rfl⟩) ⟨fun a U g mk q => by obtain ⟨q0, q1, qP, qK, qD⟩ := q; exact ⟨q0, q1, qP, va_K.moved (u := U) (U := U.calling g mk a) (Vm.Alike.refl U.vm) qK, qD⟩, va_recv hK hP (ci := 9) (q0 := 0) rfl rfl, fun U hU hW => ⟨rfl, by rw [hU], by rw [hU]; exact hP, va_K.moved hW.alike hK, hD.weaken (fun _ _ _ _ => trivial)⟩⟩ rfl rfl hl.1 rfl (lv_room (Nat.le_of_ble_eq_true rfl)) dX9_feed_33 ⟨Nat.le_of_ble_eq_true rfl, Nat.le_of_ble_eq_true rfl⟩) hS (fun q _ h => hFc q h) hFc (fun u t H1 locs ht hvm w_13 hB hz1 hk1 hS => ?_)
    obtain ⟨f0_14, hP1, hK1, hD1⟩ := hB
    rw [ht] at hP1
    have hK := va_K.moved hvm.symm hK1
    generalize H1 = H at hP1 hS ⊢
    have hP : va_P D vwCl (mw h0 ad cs (upd iv 1 (nI ((((n1 + 4) + 4) + 4) + 4))) (uF fv 0 f0_14) gv) H := hP1
    have hD : va_D A (mw h0 ad cs (upd iv 1 (nI ((((n1 + 4) + 4) + 4) + 4))) (uF fv 0 f0_14) gv) := hD1.weaken (fun _ _ _ h => hFc _ h)
    refine lv_aload_n hx hb dX9_feed_36 rfl (lv_at hl 0 rfl) ?_
    refine lv_iload hx hb dX9_feed_37 (lv_at hl 5 rfl) ?_
    have hFc := free_all hD hS hA
    refine va_callv (va_runV (As := [.int a5]) (rest := []) ⟨hx, hb, hml, hown, hts⟩ (m_put l D h0 ad cs (upd iv 1 (nI ((((n1 + 4) + 4) + 4) + 4))) (uF fv 0 f0_14) gv ((((n1 + 4) + 4) + 4) + 4) a5 H.size rfl (by omega)) (cwV 1 hts gX9_feed_X9_put rfl rfl rfl (by decide +kernel) ⟨Nat.le_of_ble_eq_true rfl, Nat.le_of_ble_eq_true rfl⟩) ⟨fun a U g mk q => by obtain ⟨q0, q1, qP, qK, qD⟩ := q; exact ⟨q0, q1, qP, va_K.moved (u := U) (U := U.calling g mk a) (Vm.Alike.refl U.vm) qK, qD⟩, va_recv hK hP (ci := 9) (q0 := 0) rfl rfl, fun U hU hW => ⟨rfl, by rw [hU], by rw [hU]; exact hP, va_K.moved hW.alike hK, hD.weaken (fun _ _ _ _ => trivial)⟩⟩ rfl rfl hl.1 rfl (lv_room (Nat.le_of_ble_eq_true rfl)) dX9_feed_39 ⟨Nat.le_of_ble_eq_true rfl, Nat.le_of_ble_eq_true rfl⟩) hS (fun q _ h => hFc q h) hFc (fun u t H1 locs ht hvm w_16 hB hz1 hk1 hS => ?_)
    obtain ⟨f0_17, hP1, hK1, hD1⟩ := hB
    rw [ht] at hP1
    have hK := va_K.moved hvm.symm hK1
    generalize H1 = H at hP1 hS ⊢
    have hP : va_P D vwCl (mw h0 ad cs (upd iv 1 (nI (((((n1 + 4) + 4) + 4) + 4) + 4))) (uF fv 0 f0_17) gv) H := hP1
    have hD : va_D A (mw h0 ad cs (upd iv 1 (nI (((((n1 + 4) + 4) + 4) + 4) + 4))) (uF fv 0 f0_17) gv) := hD1.weaken (fun _ _ _ h => hFc _ h)
    refine lv_aload_n hx hb dX9_feed_42 rfl (lv_at hl 0 rfl) ?_
    refine va_get (D := D) (ci := 9) (v := .int (nI (((((n1 + 4) + 4) + 4) + 4) + 4))) (C := RX9) (T := TX9) (N := 44) hx hb hts hin9 hown hK hP 0 rfl rfl 1 (by decide) (hts (.fieldLink RX9 13 "HoneyHouseModel" "taped" "I") (List.mem_of_getElem? (i := 1) rfl)) (fun _ h9 => h9) rfl dX9_feed_43 ?_
    have hP : va_P D vwCl (mw h0 ad cs (upd iv 1 (nI (((((n1 + 4) + 4) + 4) + 4) + 4))) (uF fv 0 f0_17) gv) H := hP
    have hD : va_D A (mw h0 ad cs (upd iv 1 (nI (((((n1 + 4) + 4) + 4) + 4) + 4))) (uF fv 0 f0_17) gv) := hD
    exact W.iret (v := nI (((((n1 + 4) + 4) + 4) + 4) + 4)) hx hb hr (fun t ht hW => ⟨⟨nI (((((n1 + 4) + 4) + 4) + 4) + 4), nI (((((n1 + 4) + 4) + 4) + 4) + 4), rfl, rfl, ((((n1 + 4) + 4) + 4) + 4) + 4, f0_17, by rw [if_neg (by omega)], by rw [if_neg (by omega)], by rw [ht]; exact hP, va_K.moved hW.alike hK, hD⟩, hS.F ht⟩) hS.2.2 dX9_feed_46
  have d_18 := n_nle (a := n1 + 20) (b := 400) (by omega) (by omega) c_1
  refine lv_iconst (v := (-1)) hx hb dX9_feed_13 (by decide) ?_
  have hP : va_P D vwCl (mw h0 ad cs (upd iv 1 (iv 1)) (uF fv 0 (fv 0)) gv) s.heap := hP
  have hD : va_D A (mw h0 ad cs (upd iv 1 (iv 1)) (uF fv 0 (fv 0)) gv) := hD
  have hP := hP
  rw [h1] at hP hD
  exact W.iret (v := (-1)) hx hb hr (fun t ht hW => ⟨⟨(-1), (-1), rfl, rfl, n1, fv 0, by rw [if_pos (by omega)], by rw [if_pos (by omega)], by rw [ht]; exact hP, va_K.moved hW.alike hK, hD⟩, hS.F ht⟩) hS.2.2 dX9_feed_14
set_option maxHeartbeats 4000000 in
set_option maxRecDepth 100000 in
theorem m_end (l : Launch) (D : va_G) (h0 : Nat) (ad : Nat → Nat) (cs : Nat → ClassId) (iv : Nat → Int32) (fv : Nat → Nat → Int32) (gv : Nat → Int64) (n1 : Nat) (a1 : Int32) (sz : Nat) (h1 : iv 1 = nI n1) (b1 : n1 ≤ 400) : Met l yX9_end wsX9_end ({ frames := 0, cells := 0, slots := 0, locals := 0 }) (va_Pc [.ref h0, .int a1] (fun U => U.heap.size = sz ∧ va_P D vwCl (mw h0 ad cs iv fv gv) U.heap ∧ va_K D vwCl (mT cs) U ∧ va_D (fun _ => True) (mw h0 ad cs iv fv gv))) (va_Qi (fun (r u : Int32) => r = u) (fun (r : Int32) (t : State) => ∃ (k1 : Nat), (k1 ≤ 400) ∧ (k1 = if a1 < 0 then n1 else if nI n1 < a1 then n1 else a1.toNatClampNeg) ∧ (r = if a1 < 0 then 0 else if nI n1 < a1 then 0 else 1) ∧ va_P D vwCl (mw h0 ad cs (upd iv 1 (nI k1)) fv gv) t.heap ∧ va_K D vwCl (mT cs) t ∧ va_D (va_A (mw h0 ad cs iv fv gv) sz) (mw h0 ad cs (upd iv 1 (nI k1)) fv gv)) (va_A (mw h0 ad cs iv fv gv) sz)) 0 0 (va_A (mw h0 ad cs iv fv gv) sz) := by
  refine Met.ofW (cc := cX9_end) (maxL := 2) (ret := (some .boolean)) (by decide) rfl ?_
  intro p e s m args below meth c s₁ B hml hv
  obtain ⟨rfl, hsz, hP, hK, hD0⟩ := hv
  have hx := B.exec
  have hb := B.bytes
  have hr := B.returns
  have hts := atoms_spec (ws := wsX9_end) B.pre
  have hown : s.vm.findClass RX9 = some m.cls := findClass_of_methodNamed B.named
  have hlocks := B.notSynchronized
  subst hsz
  have hD := hD0.self (sz := s.heap.size)
  generalize hAe : va_A (mw h0 ad cs iv fv gv) s.heap.size = A at hD ⊢
  have hA : ∀ q : Nat, s.heap.size ≤ q → A q := fun q h => by rw [← hAe]; exact Or.inr h
  have hS : va_S A s.heap s.heap [] := va_S.rf
  have hin9 : ∀ w ∈ u_ws RX9 TX9 44, w ∈ wsX9_end := (fun _ h9 => List.mem_cons_of_mem _ ((List.mem_append_right _ h9)))
  have hl := lv_entry ([.ref h0, .int a1]) (n := 2) (Nat.le_of_ble_eq_true rfl)
  rw [lg_entry_eq]
  generalize (lg_sl ([.ref h0, .int a1]) ++ List.replicate (2 - (lg_sl ([.ref h0, .int a1])).length) Slot.unset).toArray = ls at hl ⊢
  have hl : lv_has ls 2 [(0, .ref h0), (1, .int a1)] := hl
  refine lv_iload_n hx hb dX9_end_0 rfl (lv_at hl 1 rfl) ?_
  refine lv_if_lt (tgt := 12) hx hb dX9_end_1 (by decide) (fun c_1 => ?_) (fun c_1 => ?_)
  · refine lv_iconst (v := 0) hx hb dX9_end_12 (by decide) ?_
    have hP : va_P D vwCl (mw h0 ad cs (upd iv 1 (iv 1)) fv gv) s.heap := hP
    have hD : va_D A (mw h0 ad cs (upd iv 1 (iv 1)) fv gv) := hD
    have hP := hP
    rw [h1] at hP hD
    exact W.zret (v := 0) hx hb hr rfl (fun t ht hW => ⟨⟨0, 0, rfl, rfl, n1, by omega, by rw [if_pos c_1], by rw [if_pos c_1], by rw [ht]; exact hP, va_K.moved hW.alike hK, hD⟩, hS.F ht⟩) hS.2.2 dX9_end_13
  refine lv_iload_n hx hb dX9_end_4 rfl (lv_at hl 1 rfl) ?_
  refine lv_aload_n hx hb dX9_end_5 rfl (lv_at hl 0 rfl) ?_
  refine va_get (D := D) (ci := 9) (v := .int (iv 1)) (C := RX9) (T := TX9) (N := 44) hx hb hts hin9 hown hK hP 0 rfl rfl 1 (by decide) (hts (.fieldLink RX9 13 "HoneyHouseModel" "taped" "I") (List.mem_of_getElem? (i := 1) rfl)) (fun _ h9 => h9) rfl dX9_end_6 ?_
  refine tp_i (y := nI n1) (h1) ?_
  refine lv_icmp_le (tgt := 14) hx hb dX9_end_9 (by decide) (fun c_2 => ?_) (fun c_2 => ?_)
  · obtain ⟨j9, hj9, rfl⟩ := nI_of c_1
    have hj8 : j9 ≤ n1 := n_le hj9 (by omega) c_2
    refine lv_aload_n hx hb dX9_end_14 rfl (lv_at hl 0 rfl) ?_
    refine lv_iload_n hx hb dX9_end_15 rfl (lv_at hl 1 rfl) ?_
    refine va_put (D := D) (ci := 9) (v := .int (nI j9)) (ty := .int) (C := RX9) (T := TX9) (N := 44) hx hb hts hin9 tyX9 tyX9_ok nmX9 hown hK hP hD hS 0 rfl rfl 1 (by decide) (hts (.fieldLink RX9 13 "HoneyHouseModel" "taped" "I") (List.mem_of_getElem? (i := 1) rfl)) (fun _ h9 => h9) rfl (tyX9_ok 1 (by decide)) rfl rfl (Nat.le_of_ble_eq_true rfl) dX9_end_16 (fun H locs hP hD hS => ?_)
    have hP : va_P D vwCl (mw h0 ad cs (upd iv 1 (nI j9)) fv gv) H := hP
    have hD : va_D A (mw h0 ad cs (upd iv 1 (nI j9)) fv gv) := hD
    refine lv_iconst (v := 1) hx hb dX9_end_19 (by decide) ?_
    have hP : va_P D vwCl (mw h0 ad cs (upd iv 1 (nI j9)) fv gv) H := hP
    have hD : va_D A (mw h0 ad cs (upd iv 1 (nI j9)) fv gv) := hD
    exact W.zret (v := 1) hx hb hr rfl (fun t ht hW => ⟨⟨1, 1, rfl, rfl, j9, by omega, by rw [if_neg c_1, if_neg (i_le_n c_2), nI_clamp hj9], by rw [if_neg c_1, if_neg (i_le_n c_2)], by rw [ht]; exact hP, va_K.moved hW.alike hK, hD⟩, hS.F ht⟩) hS.2.2 dX9_end_20
  refine lv_iconst (v := 0) hx hb dX9_end_12 (by decide) ?_
  have hP : va_P D vwCl (mw h0 ad cs (upd iv 1 (iv 1)) fv gv) s.heap := hP
  have hD : va_D A (mw h0 ad cs (upd iv 1 (iv 1)) fv gv) := hD
  have hP := hP
  rw [h1] at hP hD
  exact W.zret (v := 0) hx hb hr rfl (fun t ht hW => ⟨⟨0, 0, rfl, rfl, n1, by omega, by rw [if_neg c_1, if_pos (i_nle c_2)], by rw [if_neg c_1, if_pos (i_nle c_2)], by rw [ht]; exact hP, va_K.moved hW.alike hK, hD⟩, hS.F ht⟩) hS.2.2 dX9_end_13
set_option maxHeartbeats 4000000 in
set_option maxRecDepth 100000 in
theorem m_today (l : Launch) (D : va_G) (h0 : Nat) (ad : Nat → Nat) (cs : Nat → ClassId) (iv : Nat → Int32) (fv : Nat → Nat → Int32) (gv : Nat → Int64) (a1 : Int32) (sz : Nat)   : Met l yX9_today wsX9_today ({ frames := 0, cells := 0, slots := 0, locals := 0 }) (va_Pc [.ref h0, .int a1] (fun U => U.heap.size = sz ∧ va_P D vwCl (mw h0 ad cs iv fv gv) U.heap ∧ va_K D vwCl (mT cs) U ∧ va_D (fun _ => True) (mw h0 ad cs iv fv gv))) (va_Qi (fun (r u : Int32) => r = u) (fun (r : Int32) (t : State) => ∃ (d9 : Int32), (d9 = if a1 < iv 2 then iv 2 else if 30000 < a1 then iv 2 else a1) ∧ (r = if a1 < iv 2 then 0 else if 30000 < a1 then 0 else 1) ∧ va_P D vwCl (mw h0 ad cs (upd iv 2 d9) fv gv) t.heap ∧ va_K D vwCl (mT cs) t ∧ va_D (va_A (mw h0 ad cs iv fv gv) sz) (mw h0 ad cs (upd iv 2 d9) fv gv)) (va_A (mw h0 ad cs iv fv gv) sz)) 0 0 (va_A (mw h0 ad cs iv fv gv) sz) := by
  refine Met.ofW (cc := cX9_today) (maxL := 2) (ret := (some .boolean)) (by decide) rfl ?_
  intro p e s m args below meth c s₁ B hml hv
  obtain ⟨rfl, hsz, hP, hK, hD0⟩ := hv
  have hx := B.exec
  have hb := B.bytes
  have hr := B.returns
  have hts := atoms_spec (ws := wsX9_today) B.pre
  have hown : s.vm.findClass RX9 = some m.cls := findClass_of_methodNamed B.named
  have hlocks := B.notSynchronized
  subst hsz
  have hD := hD0.self (sz := s.heap.size)
  generalize hAe : va_A (mw h0 ad cs iv fv gv) s.heap.size = A at hD ⊢
  have hA : ∀ q : Nat, s.heap.size ≤ q → A q := fun q h => by rw [← hAe]; exact Or.inr h
  have hS : va_S A s.heap s.heap [] := va_S.rf
  have hin9 : ∀ w ∈ u_ws RX9 TX9 44, w ∈ wsX9_today := (fun _ h9 => List.mem_cons_of_mem _ ((List.mem_append_right _ h9)))
  have hl := lv_entry ([.ref h0, .int a1]) (n := 2) (Nat.le_of_ble_eq_true rfl)
  rw [lg_entry_eq]
  generalize (lg_sl ([.ref h0, .int a1]) ++ List.replicate (2 - (lg_sl ([.ref h0, .int a1])).length) Slot.unset).toArray = ls at hl ⊢
  have hl : lv_has ls 2 [(0, .ref h0), (1, .int a1)] := hl
  refine lv_iload_n hx hb dX9_today_0 rfl (lv_at hl 1 rfl) ?_
  refine lv_aload_n hx hb dX9_today_1 rfl (lv_at hl 0 rfl) ?_
  refine va_get (D := D) (ci := 9) (v := .int (iv 2)) (C := RX9) (T := TX9) (N := 44) hx hb hts hin9 hown hK hP 0 rfl rfl 2 (by decide) (hts (.fieldLink RX9 17 "HoneyHouseModel" "today" "I") (List.mem_of_getElem? (i := 1) rfl)) (fun _ h9 => h9) rfl dX9_today_2 ?_
  refine lv_icmp_lt (tgt := 15) hx hb dX9_today_5 (by decide) (fun c_1 => ?_) (fun c_1 => ?_)
  · refine lv_iconst (v := 0) hx hb dX9_today_15 (by decide) ?_
    have hP : va_P D vwCl (mw h0 ad cs (upd iv 2 (iv 2)) fv gv) s.heap := hP
    have hD : va_D A (mw h0 ad cs (upd iv 2 (iv 2)) fv gv) := hD
    exact W.zret (v := 0) hx hb hr rfl (fun t ht hW => ⟨⟨0, 0, rfl, rfl, iv 2, by rw [if_pos c_1], by rw [if_pos c_1], by rw [ht]; exact hP, va_K.moved hW.alike hK, hD⟩, hS.F ht⟩) hS.2.2 dX9_today_16
  refine lv_iload_n hx hb dX9_today_8 rfl (lv_at hl 1 rfl) ?_
  refine lv_sipush (v := 30000) hx hb dX9_today_9 (by decide) ?_
  refine lv_icmp_le (tgt := 17) hx hb dX9_today_12 (by decide) (fun c_2 => ?_) (fun c_2 => ?_)
  · refine lv_aload_n hx hb dX9_today_17 rfl (lv_at hl 0 rfl) ?_
    refine lv_iload_n hx hb dX9_today_18 rfl (lv_at hl 1 rfl) ?_
    refine va_put (D := D) (ci := 9) (v := .int a1) (ty := .int) (C := RX9) (T := TX9) (N := 44) hx hb hts hin9 tyX9 tyX9_ok nmX9 hown hK hP hD hS 0 rfl rfl 2 (by decide) (hts (.fieldLink RX9 17 "HoneyHouseModel" "today" "I") (List.mem_of_getElem? (i := 1) rfl)) (fun _ h9 => h9) rfl (tyX9_ok 2 (by decide)) rfl rfl (Nat.le_of_ble_eq_true rfl) dX9_today_19 (fun H locs hP hD hS => ?_)
    have hP : va_P D vwCl (mw h0 ad cs (upd iv 2 a1) fv gv) H := hP
    have hD : va_D A (mw h0 ad cs (upd iv 2 a1) fv gv) := hD
    refine lv_iconst (v := 1) hx hb dX9_today_22 (by decide) ?_
    have hP : va_P D vwCl (mw h0 ad cs (upd iv 2 a1) fv gv) H := hP
    have hD : va_D A (mw h0 ad cs (upd iv 2 a1) fv gv) := hD
    exact W.zret (v := 1) hx hb hr rfl (fun t ht hW => ⟨⟨1, 1, rfl, rfl, a1, by rw [if_neg c_1, if_neg (i_le_n c_2)], by rw [if_neg c_1, if_neg (i_le_n c_2)], by rw [ht]; exact hP, va_K.moved hW.alike hK, hD⟩, hS.F ht⟩) hS.2.2 dX9_today_23
  refine lv_iconst (v := 0) hx hb dX9_today_15 (by decide) ?_
  have hP : va_P D vwCl (mw h0 ad cs (upd iv 2 (iv 2)) fv gv) s.heap := hP
  have hD : va_D A (mw h0 ad cs (upd iv 2 (iv 2)) fv gv) := hD
  exact W.zret (v := 0) hx hb hr rfl (fun t ht hW => ⟨⟨0, 0, rfl, rfl, iv 2, by rw [if_neg c_1, if_pos (i_nle c_2)], by rw [if_neg c_1, if_pos (i_nle c_2)], by rw [ht]; exact hP, va_K.moved hW.alike hK, hD⟩, hS.F ht⟩) hS.2.2 dX9_today_16
set_option maxHeartbeats 4000000 in
set_option maxRecDepth 100000 in
theorem m_step (l : Launch) (D : va_G) (h0 : Nat) (ad : Nat → Nat) (cs : Nat → ClassId) (iv : Nat → Int32) (fv : Nat → Nat → Int32) (gv : Nat → Int64) (a1 a2 a3 : Int32) (sz : Nat)   : Met l yX9_step wsX9_step ({ frames := 1, cells := 0, slots := 0, locals := 22 }) (va_Pc [.ref h0, .int a1, .int a2, .int a3] (fun U => U.heap.size = sz ∧ va_P D vwCl (mw h0 ad cs iv fv gv) U.heap ∧ va_K D vwCl (mT cs) U ∧ va_D (fun _ => True) (mw h0 ad cs iv fv gv))) (va_Qi (fun (r u : Int32) => r = u) (fun (r : Int32) (t : State) => ∃ (f8 : Nat → Int32), ((stpN a1 a2 a3 ∧ r = 0 ∧ f8 = fv 8) ∨ (¬ stpN a1 a2 a3 ∧ r = 1 ∧ f8 = stpF (fv 8) a1.toNatClampNeg a2 a3)) ∧ va_P D vwCl (mw h0 ad cs iv (uF fv 8 f8) gv) t.heap ∧ va_K D vwCl (mT cs) t ∧ va_D (va_A (mw h0 ad cs iv fv gv) sz) (mw h0 ad cs iv (uF fv 8 f8) gv)) (va_A (mw h0 ad cs iv fv gv) sz)) 0 0 (va_A (mw h0 ad cs iv fv gv) sz) := by
  refine Met.ofW (cc := cX9_step) (maxL := 4) (ret := (some .boolean)) (by decide) rfl ?_
  intro p e s m args below meth c s₁ B hml hv
  obtain ⟨rfl, hsz, hP, hK, hD0⟩ := hv
  have hx := B.exec
  have hb := B.bytes
  have hr := B.returns
  have hts := atoms_spec (ws := wsX9_step) B.pre
  have hown : s.vm.findClass RX9 = some m.cls := findClass_of_methodNamed B.named
  have hlocks := B.notSynchronized
  subst hsz
  have hD := hD0.self (sz := s.heap.size)
  generalize hAe : va_A (mw h0 ad cs iv fv gv) s.heap.size = A at hD ⊢
  have hA : ∀ q : Nat, s.heap.size ≤ q → A q := fun q h => by rw [← hAe]; exact Or.inr h
  have hS : va_S A s.heap s.heap [] := va_S.rf
  have hin9 : ∀ w ∈ u_ws RX9 TX9 44, w ∈ wsX9_step := (fun _ h9 => List.mem_cons_of_mem _ ((List.mem_append_right _ h9)))
  have hl := lv_entry ([.ref h0, .int a1, .int a2, .int a3]) (n := 4) (Nat.le_of_ble_eq_true rfl)
  rw [lg_entry_eq]
  generalize (lg_sl ([.ref h0, .int a1, .int a2, .int a3]) ++ List.replicate (4 - (lg_sl ([.ref h0, .int a1, .int a2, .int a3])).length) Slot.unset).toArray = ls at hl ⊢
  have hl : lv_has ls 4 [(0, .ref h0), (1, .int a1), (2, .int a2), (3, .int a3)] := hl
  refine lv_iload_n hx hb dX9_step_0 rfl (lv_at hl 1 rfl) ?_
  refine lv_iconst (v := 0) hx hb dX9_step_1 (by decide) ?_
  refine lv_iconst (v := 3) hx hb dX9_step_2 (by decide) ?_
  refine vp_callSi (W.runS (As := [.int a1, .int 0, .int 3]) (rest := []) ⟨hx, hb, hml, hown, hts⟩ (s_X9_is l a1 0 3) (va_cwS 3 hts gX9_step_X9_is rfl rfl rfl (by decide +kernel) ⟨Nat.le_of_ble_eq_true rfl, Nat.le_of_ble_eq_true rfl⟩) ⟨fun a U g mk q => q, fun U hU hW => ⟨rfl, trivial⟩⟩ rfl rfl hl.1 rfl (lv_room (Nat.le_of_ble_eq_true rfl)) dX9_step_3 ⟨Nat.le_of_ble_eq_true rfl, Nat.le_of_ble_eq_true rfl⟩) (fun r_1 k_2 => ?_)
  rcases k_2 with ⟨rfl, o_3⟩ | ⟨rfl, a_4, b_5⟩
  · refine lv_if_eq (tgt := 31) hx hb dX9_step_6 (by decide) (fun c_6 => ?_) (fun c_6 => absurd (by decide) c_6)
    refine lv_iconst (v := 0) hx hb dX9_step_31 (by decide) ?_
    have hP : va_P D vwCl (mw h0 ad cs iv (uF fv 8 (fv 8)) gv) s.heap := hP
    have hD : va_D A (mw h0 ad cs iv (uF fv 8 (fv 8)) gv) := hD
    exact W.zret (v := 0) hx hb hr rfl (fun t ht hW => ⟨⟨0, 0, rfl, rfl, fv 8, Or.inl ⟨Or.inl o_3, rfl, rfl⟩, by rw [ht]; exact hP, va_K.moved hW.alike hK, hD⟩, hS.F ht⟩) hS.2.2 dX9_step_32
  obtain ⟨j_7, hj_8, hj_9, rfl⟩ := is_nat (a := 0) (b := 3) a_4 b_5 (by omega)
  refine lv_if_eq (tgt := 31) hx hb dX9_step_6 (by decide) (fun c_10 => absurd c_10 (by decide)) (fun c_10 => ?_)
  refine lv_iload_n hx hb dX9_step_9 rfl (lv_at hl 2 rfl) ?_
  refine lv_iconst (v := 0) hx hb dX9_step_10 (by decide) ?_
  refine lv_sipush (v := 300) hx hb dX9_step_11 (by decide) ?_
  refine vp_callSi (W.runS (As := [.int a2, .int 0, .int 300]) (rest := []) ⟨hx, hb, hml, hown, hts⟩ (s_X9_is l a2 0 300) (va_cwS 3 hts gX9_step_X9_is rfl rfl rfl (by decide +kernel) ⟨Nat.le_of_ble_eq_true rfl, Nat.le_of_ble_eq_true rfl⟩) ⟨fun a U g mk q => q, fun U hU hW => ⟨rfl, trivial⟩⟩ rfl rfl hl.1 rfl (lv_room (Nat.le_of_ble_eq_true rfl)) dX9_step_14 ⟨Nat.le_of_ble_eq_true rfl, Nat.le_of_ble_eq_true rfl⟩) (fun r_11 k_12 => ?_)
  rcases k_12 with ⟨rfl, o_13⟩ | ⟨rfl, a_14, b_15⟩
  · refine lv_if_eq (tgt := 31) hx hb dX9_step_17 (by decide) (fun c_16 => ?_) (fun c_16 => absurd (by decide) c_16)
    refine lv_iconst (v := 0) hx hb dX9_step_31 (by decide) ?_
    have hP : va_P D vwCl (mw h0 ad cs iv (uF fv 8 (fv 8)) gv) s.heap := hP
    have hD : va_D A (mw h0 ad cs iv (uF fv 8 (fv 8)) gv) := hD
    exact W.zret (v := 0) hx hb hr rfl (fun t ht hW => ⟨⟨0, 0, rfl, rfl, fv 8, Or.inl ⟨Or.inr (Or.inl o_13), rfl, rfl⟩, by rw [ht]; exact hP, va_K.moved hW.alike hK, hD⟩, hS.F ht⟩) hS.2.2 dX9_step_32
  obtain ⟨j_17, hj_18, hj_19, rfl⟩ := is_nat (a := 0) (b := 300) a_14 b_15 (by omega)
  refine lv_if_eq (tgt := 31) hx hb dX9_step_17 (by decide) (fun c_20 => absurd c_20 (by decide)) (fun c_20 => ?_)
  refine lv_iload_n hx hb dX9_step_20 rfl (lv_at hl 3 rfl) ?_
  refine lv_iconst (v := 0) hx hb dX9_step_21 (by decide) ?_
  refine lv_ldcw hx hb hown (hts (.constant RX9 291 (100000)) (List.mem_of_getElem? (i := 1) rfl)) dX9_step_22 ?_
  refine vp_callSi (W.runS (As := [.int a3, .int 0, .int 100000]) (rest := []) ⟨hx, hb, hml, hown, hts⟩ (s_X9_is l a3 0 100000) (va_cwS 3 hts gX9_step_X9_is rfl rfl rfl (by decide +kernel) ⟨Nat.le_of_ble_eq_true rfl, Nat.le_of_ble_eq_true rfl⟩) ⟨fun a U g mk q => q, fun U hU hW => ⟨rfl, trivial⟩⟩ rfl rfl hl.1 rfl (lv_room (Nat.le_of_ble_eq_true rfl)) dX9_step_25 ⟨Nat.le_of_ble_eq_true rfl, Nat.le_of_ble_eq_true rfl⟩) (fun r_21 k_22 => ?_)
  rcases k_22 with ⟨rfl, o_23⟩ | ⟨rfl, a_24, b_25⟩
  · refine lv_if_ne (tgt := 33) hx hb dX9_step_28 (by decide) (fun c_26 => absurd (by decide) c_26) (fun c_26 => ?_)
    refine lv_iconst (v := 0) hx hb dX9_step_31 (by decide) ?_
    have hP : va_P D vwCl (mw h0 ad cs iv (uF fv 8 (fv 8)) gv) s.heap := hP
    have hD : va_D A (mw h0 ad cs iv (uF fv 8 (fv 8)) gv) := hD
    exact W.zret (v := 0) hx hb hr rfl (fun t ht hW => ⟨⟨0, 0, rfl, rfl, fv 8, Or.inl ⟨Or.inr (Or.inr (o_23)), rfl, rfl⟩, by rw [ht]; exact hP, va_K.moved hW.alike hK, hD⟩, hS.F ht⟩) hS.2.2 dX9_step_32
  obtain ⟨j_27, hj_28, hj_29, rfl⟩ := is_nat (a := 0) (b := 100000) a_24 b_25 (by omega)
  refine lv_if_ne (tgt := 33) hx hb dX9_step_28 (by decide) (fun c_30 => ?_) (fun c_30 => absurd c_30 (by decide))
  refine lv_aload_n hx hb dX9_step_33 rfl (lv_at hl 0 rfl) ?_
  refine va_get (D := D) (ci := 9) (v := .ref (ad 8)) (C := RX9) (T := TX9) (N := 44) hx hb hts hin9 hown hK hP 0 rfl rfl 8 (by decide) (hts (.fieldLink RX9 35 "HoneyHouseModel" "steps" "[I") (List.mem_of_getElem? (i := 2) rfl)) (fun _ h9 => h9) rfl dX9_step_34 ?_
  refine lv_iconst (v := 2) hx hb dX9_step_37 (by decide) ?_
  refine lv_iload_n hx hb dX9_step_38 rfl (lv_at hl 1 rfl) ?_
  refine lv_imul hx hb dX9_step_39 ?_
  refine tp_i (y := nI (2 * j_7)) (pk_mul 2 j_7) ?_
  refine lv_iload_n hx hb dX9_step_40 rfl (lv_at hl 2 rfl) ?_
  refine va_iast (f := fv 8) (n := 8) hx hb hK hP hD hS 6 5 rfl rfl (vp_in_nI (n := 2 * j_7) (by omega) (by omega)) dX9_step_41 (fun H locs hP hD hS => ?_)
  have hP : va_P D vwCl (mw h0 ad cs iv (uF fv 8 (upd (fv 8) (nI (2 * j_7)).toNatClampNeg (nI j_17))) gv) H := hP
  have hD : va_D A (mw h0 ad cs iv (uF fv 8 (upd (fv 8) (nI (2 * j_7)).toNatClampNeg (nI j_17))) gv) := hD
  obtain ⟨f_31, hf_32⟩ : ∃ g9, g9 = upd (fv 8) (nI (2 * j_7)).toNatClampNeg (nI j_17) := ⟨_, rfl⟩
  rw [← hf_32] at hP hD
  rw [nI_clamp (n := 2 * j_7) (by omega)] at hf_32
  refine lv_aload_n hx hb dX9_step_42 rfl (lv_at hl 0 rfl) ?_
  refine va_get (D := D) (ci := 9) (v := .ref (ad 8)) (C := RX9) (T := TX9) (N := 44) hx hb hts hin9 hown hK hP 0 rfl rfl 8 (by decide) (hts (.fieldLink RX9 35 "HoneyHouseModel" "steps" "[I") (List.mem_of_getElem? (i := 2) rfl)) (fun _ h9 => h9) rfl dX9_step_43 ?_
  refine lv_iconst (v := 2) hx hb dX9_step_46 (by decide) ?_
  refine lv_iload_n hx hb dX9_step_47 rfl (lv_at hl 1 rfl) ?_
  refine lv_imul hx hb dX9_step_48 ?_
  refine tp_i (y := nI (2 * j_7)) (pk_mul 2 j_7) ?_
  refine lv_iconst (v := 1) hx hb dX9_step_49 (by decide) ?_
  refine lv_iadd hx hb dX9_step_50 ?_
  refine tp_i (y := nI ((2 * j_7) + 1)) (nI_add (2 * j_7) 1) ?_
  refine lv_iload_n hx hb dX9_step_51 rfl (lv_at hl 3 rfl) ?_
  refine va_iast (f := f_31) (n := 8) hx hb hK hP hD hS 6 5 rfl rfl (vp_in_nI (n := (2 * j_7) + 1) (by omega) (by omega)) dX9_step_52 (fun H locs hP hD hS => ?_)
  have hP : va_P D vwCl (mw h0 ad cs iv (uF fv 8 (upd f_31 (nI ((2 * j_7) + 1)).toNatClampNeg (nI j_27))) gv) H := hP
  have hD : va_D A (mw h0 ad cs iv (uF fv 8 (upd f_31 (nI ((2 * j_7) + 1)).toNatClampNeg (nI j_27))) gv) := hD
  obtain ⟨f_33, hf_34⟩ : ∃ g9, g9 = upd f_31 (nI ((2 * j_7) + 1)).toNatClampNeg (nI j_27) := ⟨_, rfl⟩
  rw [← hf_34] at hP hD
  rw [nI_clamp (n := (2 * j_7) + 1) (by omega)] at hf_34
  refine lv_iconst (v := 1) hx hb dX9_step_53 (by decide) ?_
  have hP : va_P D vwCl (mw h0 ad cs iv (uF fv 8 f_33) gv) H := hP
  have hD : va_D A (mw h0 ad cs iv (uF fv 8 f_33) gv) := hD
  exact W.zret (v := 1) hx hb hr rfl (fun t ht hW => ⟨⟨1, 1, rfl, rfl, f_33, Or.inr ⟨(fun h => Or.elim h (fun h => Or.elim h a_4 b_5) (fun h => Or.elim h (fun h => Or.elim h a_14 b_15) (fun h => Or.elim h a_24 b_25))), rfl, by rw [nI_clamp (n := j_7) (by omega), hf_34, hf_32]; rfl⟩, by rw [ht]; exact hP, va_K.moved hW.alike hK, hD⟩, hS.F ht⟩) hS.2.2 dX9_step_54
theorem sM_yes {f : Nat → Int32} {K x : Int32} {i : Nat} (h : nI i = K) : sM f K x (i + 1) = sM f K x i + 0 := by rw [sM, if_pos h]
theorem sM_no {f : Nat → Int32} {K x : Int32} {i : Nat} (h : ¬ nI i = K) : sM f K x (i + 1) = sM f K x i + f i := by rw [sM, if_neg h]
theorem polN_j {f5 f6 : Nat → Int32} {n j : Nat} {K a3 a4 : Int32} (hj : j < n) (hn : n ≤ 40) : polN f5 f6 n (nI j) K a3 a4 ↔ (K < 0 ∨ 4 < K) ∨ a3 < 0 ∨ 1000 < a4 ∨ a4 < a3 ∨ 1000 < sU (fun i => f5 (5 * j + i)) K a3 5 ∨ sU (fun i => f6 (5 * j + i)) K a4 5 < 1000 := by
  unfold polN
  rw [nI_clamp (n := j) (by omega)]
  exact ⟨fun h => h.elim (fun h => absurd h (lot_in hj hn)) id, Or.inr⟩
set_option maxHeartbeats 4000000 in
set_option maxRecDepth 100000 in
theorem m_pollen (l : Launch) (D : va_G) (h0 : Nat) (ad : Nat → Nat) (cs : Nat → ClassId) (iv : Nat → Int32) (fv : Nat → Nat → Int32) (gv : Nat → Int64) (n3 : Nat) (a1 a2 a3 a4 : Int32) (sz : Nat) (h3 : iv 3 = nI n3) (b3 : n3 ≤ 40) : Met l yX9_pollen wsX9_pollen ({ frames := 1, cells := 0, slots := 0, locals := 22 }) (va_Pc [.ref h0, .int a1, .int a2, .int a3, .int a4] (fun U => U.heap.size = sz ∧ va_P D vwCl (mw h0 ad cs iv fv gv) U.heap ∧ va_K D vwCl (mT cs) U ∧ va_D (fun _ => True) (mw h0 ad cs iv fv gv))) (va_Qi (fun (r u : Int32) => r = u) (fun (r : Int32) (t : State) => ∃ (f5 : Nat → Int32) (f6 : Nat → Int32), ((polN (fv 5) (fv 6) n3 a1 a2 a3 a4 ∧ r = 0 ∧ f5 = fv 5 ∧ f6 = fv 6) ∨ (¬ polN (fv 5) (fv 6) n3 a1 a2 a3 a4 ∧ r = 1 ∧ f5 = upd (fv 5) (5 * a1.toNatClampNeg + a2.toNatClampNeg) a3 ∧ f6 = upd (fv 6) (5 * a1.toNatClampNeg + a2.toNatClampNeg) a4)) ∧ va_P D vwCl (mw h0 ad cs iv (uF (uF fv 5 f5) 6 f6) gv) t.heap ∧ va_K D vwCl (mT cs) t ∧ va_D (va_A (mw h0 ad cs iv fv gv) sz) (mw h0 ad cs iv (uF (uF fv 5 f5) 6 f6) gv)) (va_A (mw h0 ad cs iv fv gv) sz)) 0 0 (va_A (mw h0 ad cs iv fv gv) sz) := by
  refine Met.ofW (cc := cX9_pollen) (maxL := 8) (ret := (some .boolean)) (by decide) rfl ?_
  intro p e s m args below meth c s₁ B hml hv
  obtain ⟨rfl, hsz, hP, hK, hD0⟩ := hv
  have hx := B.exec
  have hb := B.bytes
  have hr := B.returns
  have hts := atoms_spec (ws := wsX9_pollen) B.pre
  have hown : s.vm.findClass RX9 = some m.cls := findClass_of_methodNamed B.named
  have hlocks := B.notSynchronized
  subst hsz
  have hD := hD0.self (sz := s.heap.size)
  generalize hAe : va_A (mw h0 ad cs iv fv gv) s.heap.size = A at hD ⊢
  have hA : ∀ q : Nat, s.heap.size ≤ q → A q := fun q h => by rw [← hAe]; exact Or.inr h
  have hS : va_S A s.heap s.heap [] := va_S.rf
  have hin9 : ∀ w ∈ u_ws RX9 TX9 44, w ∈ wsX9_pollen := (fun _ h9 => List.mem_cons_of_mem _ ((List.mem_append_right _ h9)))
  have hl := lv_entry ([.ref h0, .int a1, .int a2, .int a3, .int a4]) (n := 8) (Nat.le_of_ble_eq_true rfl)
  rw [lg_entry_eq]
  generalize (lg_sl ([.ref h0, .int a1, .int a2, .int a3, .int a4]) ++ List.replicate (8 - (lg_sl ([.ref h0, .int a1, .int a2, .int a3, .int a4])).length) Slot.unset).toArray = ls at hl ⊢
  have hl : lv_has ls 8 [(0, .ref h0), (1, .int a1), (2, .int a2), (3, .int a3), (4, .int a4)] := hl
  refine lv_aload_n hx hb dX9_pollen_0 rfl (lv_at hl 0 rfl) ?_
  refine lv_iload_n hx hb dX9_pollen_1 rfl (lv_at hl 1 rfl) ?_
  refine vp_callSi (W.runV (As := [.int a1]) (rest := []) ⟨hx, hb, hml, hown, hts⟩ (m_isLot l D h0 ad cs iv fv gv n3 a1 h3 (by omega)) (cwV 1 hts gX9_pollen_X9_isLot rfl rfl rfl (by decide +kernel) ⟨Nat.le_of_ble_eq_true rfl, Nat.le_of_ble_eq_true rfl⟩) ⟨fun a U g mk q => ⟨q.1, q.2.1, va_K.moved (u := U) (U := U.calling g mk a) (Vm.Alike.refl U.vm) q.2.2⟩, va_recv hK hP (ci := 9) (q0 := 0) rfl rfl, fun U hU hW => ⟨rfl, by rw [hU]; exact hP, va_K.moved hW.alike hK⟩⟩ rfl rfl hl.1 rfl (lv_room (Nat.le_of_ble_eq_true rfl)) dX9_pollen_2 ⟨Nat.le_of_ble_eq_true rfl, Nat.le_of_ble_eq_true rfl⟩) (fun r_1 k_2 => ?_)
  rcases k_2 with ⟨rfl, o_5⟩ | ⟨rfl, j_3, hj_4, rfl⟩
  · refine lv_if_eq (tgt := 35) hx hb dX9_pollen_5 (by decide) (fun c_6 => ?_) (fun c_6 => absurd (by decide) c_6)
    refine lv_iconst (v := 0) hx hb dX9_pollen_35 (by decide) ?_
    have hP : va_P D vwCl (mw h0 ad cs iv (uF (uF fv 5 (fv 5)) 6 (fv 6)) gv) s.heap := hP
    have hD : va_D A (mw h0 ad cs iv (uF (uF fv 5 (fv 5)) 6 (fv 6)) gv) := hD
    exact W.zret (v := 0) hx hb hr rfl (fun t ht hW => ⟨⟨0, 0, rfl, rfl, fv 5, fv 6, Or.inl ⟨Or.inl o_5, rfl, rfl, rfl⟩, by rw [ht]; exact hP, va_K.moved hW.alike hK, hD⟩, hS.F ht⟩) hS.2.2 dX9_pollen_36
  refine lv_if_eq (tgt := 35) hx hb dX9_pollen_5 (by decide) (fun c_7 => absurd c_7 (by decide)) (fun c_7 => ?_)
  refine lv_iload_n hx hb dX9_pollen_8 rfl (lv_at hl 2 rfl) ?_
  refine lv_iconst (v := 0) hx hb dX9_pollen_9 (by decide) ?_
  refine lv_iconst (v := 4) hx hb dX9_pollen_10 (by decide) ?_
  refine vp_callSi (W.runS (As := [.int a2, .int 0, .int 4]) (rest := []) ⟨hx, hb, hml, hown, hts⟩ (s_X9_is l a2 0 4) (va_cwS 3 hts gX9_pollen_X9_is rfl rfl rfl (by decide +kernel) ⟨Nat.le_of_ble_eq_true rfl, Nat.le_of_ble_eq_true rfl⟩) ⟨fun a U g mk q => q, fun U hU hW => ⟨rfl, trivial⟩⟩ rfl rfl hl.1 rfl (lv_room (Nat.le_of_ble_eq_true rfl)) dX9_pollen_11 ⟨Nat.le_of_ble_eq_true rfl, Nat.le_of_ble_eq_true rfl⟩) (fun r_8 k_9 => ?_)
  rcases k_9 with ⟨rfl, o_10⟩ | ⟨rfl, a_11, b_12⟩
  · refine lv_if_eq (tgt := 35) hx hb dX9_pollen_14 (by decide) (fun c_13 => ?_) (fun c_13 => absurd (by decide) c_13)
    refine lv_iconst (v := 0) hx hb dX9_pollen_35 (by decide) ?_
    have hP : va_P D vwCl (mw h0 ad cs iv (uF (uF fv 5 (fv 5)) 6 (fv 6)) gv) s.heap := hP
    have hD : va_D A (mw h0 ad cs iv (uF (uF fv 5 (fv 5)) 6 (fv 6)) gv) := hD
    exact W.zret (v := 0) hx hb hr rfl (fun t ht hW => ⟨⟨0, 0, rfl, rfl, fv 5, fv 6, Or.inl ⟨(polN_j hj_4 (by omega)).mpr (Or.inl o_10), rfl, rfl, rfl⟩, by rw [ht]; exact hP, va_K.moved hW.alike hK, hD⟩, hS.F ht⟩) hS.2.2 dX9_pollen_36
  obtain ⟨j_14, hj_15, hj_16, rfl⟩ := is_nat (a := 0) (b := 4) a_11 b_12 (by omega)
  refine lv_if_eq (tgt := 35) hx hb dX9_pollen_14 (by decide) (fun c_17 => absurd c_17 (by decide)) (fun c_17 => ?_)
  refine lv_iload_n hx hb dX9_pollen_17 rfl (lv_at hl 3 rfl) ?_
  refine lv_if_lt (tgt := 35) hx hb dX9_pollen_18 (by decide) (fun c_18 => ?_) (fun c_18 => ?_)
  · refine lv_iconst (v := 0) hx hb dX9_pollen_35 (by decide) ?_
    have hP : va_P D vwCl (mw h0 ad cs iv (uF (uF fv 5 (fv 5)) 6 (fv 6)) gv) s.heap := hP
    have hD : va_D A (mw h0 ad cs iv (uF (uF fv 5 (fv 5)) 6 (fv 6)) gv) := hD
    exact W.zret (v := 0) hx hb hr rfl (fun t ht hW => ⟨⟨0, 0, rfl, rfl, fv 5, fv 6, Or.inl ⟨(polN_j hj_4 (by omega)).mpr (Or.inr (Or.inl c_18)), rfl, rfl, rfl⟩, by rw [ht]; exact hP, va_K.moved hW.alike hK, hD⟩, hS.F ht⟩) hS.2.2 dX9_pollen_36
  refine lv_iload_n hx hb dX9_pollen_21 rfl (lv_at hl 3 rfl) ?_
  refine lv_iload hx hb dX9_pollen_22 (lv_at hl 4 rfl) ?_
  refine lv_icmp_gt (tgt := 35) hx hb dX9_pollen_24 (by decide) (fun c_19 => ?_) (fun c_19 => ?_)
  · refine lv_iconst (v := 0) hx hb dX9_pollen_35 (by decide) ?_
    have hP : va_P D vwCl (mw h0 ad cs iv (uF (uF fv 5 (fv 5)) 6 (fv 6)) gv) s.heap := hP
    have hD : va_D A (mw h0 ad cs iv (uF (uF fv 5 (fv 5)) 6 (fv 6)) gv) := hD
    exact W.zret (v := 0) hx hb hr rfl (fun t ht hW => ⟨⟨0, 0, rfl, rfl, fv 5, fv 6, Or.inl ⟨(polN_j hj_4 (by omega)).mpr (Or.inr (Or.inr (Or.inr (Or.inl c_19)))), rfl, rfl, rfl⟩, by rw [ht]; exact hP, va_K.moved hW.alike hK, hD⟩, hS.F ht⟩) hS.2.2 dX9_pollen_36
  refine lv_iload hx hb dX9_pollen_27 (lv_at hl 4 rfl) ?_
  refine lv_sipush (v := 1000) hx hb dX9_pollen_29 (by decide) ?_
  refine lv_icmp_le (tgt := 37) hx hb dX9_pollen_32 (by decide) (fun c_20 => ?_) (fun c_20 => ?_)
  · refine lv_iload_n hx hb dX9_pollen_37 rfl (lv_at hl 3 rfl) ?_
    refine lv_istore (lv' := [(5, .int a3), (0, .ref h0), (1, .int (nI j_3)), (2, .int (nI j_14)), (3, .int a3), (4, .int a4)]) hx hb dX9_pollen_38 hl (by decide) rfl (fun ls hl => ?_)
    refine lv_iload hx hb dX9_pollen_40 (lv_at hl 5 rfl) ?_
    refine lv_istore (lv' := [(6, .int a4), (5, .int a3), (0, .ref h0), (1, .int (nI j_3)), (2, .int (nI j_14)), (3, .int a3), (4, .int a4)]) hx hb dX9_pollen_42 hl (by decide) rfl (fun ls hl => ?_)
    refine lv_iconst (v := 0) hx hb dX9_pollen_44 (by decide) ?_
    refine lv_istore (lv' := [(7, .int 0), (6, .int a4), (5, .int a3), (0, .ref h0), (1, .int (nI j_3)), (2, .int (nI j_14)), (3, .int a3), (4, .int a4)]) hx hb dX9_pollen_45 hl (by decide) rfl (fun ls hl => ?_)
    refine lp_V (nL := 8) (σ := Nat × Int32 × Int32) (lv := fun x9 => [(7, .int (nI x9.1)), (6, .int x9.2.2), (5, .int x9.2.1), (4, .int a4), (3, .int a3), (2, .int (nI j_14)), (1, .int (nI j_3)), (0, .ref h0)]) (μ := fun x9 => 5 - x9.1) (J := fun x9 ws9 => ws9 = (mw h0 ad cs iv fv gv) ∧ (x9.1 ≤ 5) ∧ (x9.2.1 = sM (fun i9 => fv 5 (5 * j_3 + i9)) (nI j_14) a3 x9.1) ∧ (x9.2.2 = sM (fun i9 => fv 6 (5 * j_3 + i9)) (nI j_14) a4 x9.1)) (fun x9 ws9 H locs ls hj hP hD hS hl ih_21 => ?_) (0, a3, a4) (mw h0 ad cs iv fv gv) _ _ ls ⟨rfl, (show 0 ≤ 5 from by omega), (show a3 = sM (fun i9 => fv 5 (5 * j_3 + i9)) (nI j_14) a3 0 from rfl), (show a4 = sM (fun i9 => fv 6 (5 * j_3 + i9)) (nI j_14) a4 0 from rfl)⟩ hP hD hS (lv_sub hl [0, 1, 2, 7, 6, 5, 4, 3] rfl)
    obtain ⟨i_22, x_23, y_24⟩ := x9
    replace hj : ws9 = (mw h0 ad cs iv fv gv) ∧ (i_22 ≤ 5) ∧ (x_23 = sM (fun i9 => fv 5 (5 * j_3 + i9)) (nI j_14) a3 i_22) ∧ (y_24 = sM (fun i9 => fv 6 (5 * j_3 + i9)) (nI j_14) a4 i_22) := hj
    obtain ⟨rfl, hi_25, hx_26, hy_27⟩ := hj
    have hl : lv_has ls 8 [(7, .int (nI i_22)), (6, .int y_24), (5, .int x_23), (4, .int a4), (3, .int a3), (2, .int (nI j_14)), (1, .int (nI j_3)), (0, .ref h0)] := hl
    refine lv_iload hx hb dX9_pollen_47 (lv_at hl 0 rfl) ?_
    refine lv_iconst (v := 5) hx hb dX9_pollen_49 (by decide) ?_
    refine lv_icmp_ge (tgt := 111) hx hb dX9_pollen_50 (by decide) (fun c_28 => ?_) (fun c_28 => ?_)
    · have d_29 := n_le (a := 5) (b := i_22) (by omega) (by omega) c_28
      have h5x : x_23 = sU (fun i9 => fv 5 (5 * j_3 + i9)) (nI j_14) a3 5 := by rw [hx_26, show i_22 = 5 by omega]; exact sM_sU a_11 b_12
      have h5y : y_24 = sU (fun i9 => fv 6 (5 * j_3 + i9)) (nI j_14) a4 5 := by rw [hy_27, show i_22 = 5 by omega]; exact sM_sU a_11 b_12
      rw [h5x, h5y] at hl
      refine lv_iload hx hb dX9_pollen_111 (lv_at hl 2 rfl) ?_
      refine lv_sipush (v := 1000) hx hb dX9_pollen_113 (by decide) ?_
      refine lv_icmp_gt (tgt := 127) hx hb dX9_pollen_116 (by decide) (fun c_30 => ?_) (fun c_30 => ?_)
      · refine lv_iconst (v := 0) hx hb dX9_pollen_127 (by decide) ?_
        have hP : va_P D vwCl (mw h0 ad cs iv (uF (uF fv 5 (fv 5)) 6 (fv 6)) gv) H := hP
        have hD : va_D A (mw h0 ad cs iv (uF (uF fv 5 (fv 5)) 6 (fv 6)) gv) := hD
        exact W.zret (v := 0) hx hb hr rfl (fun t ht hW => ⟨⟨0, 0, rfl, rfl, fv 5, fv 6, Or.inl ⟨(polN_j hj_4 (by omega)).mpr (Or.inr (Or.inr (Or.inr (Or.inr (Or.inl c_30))))), rfl, rfl, rfl⟩, by rw [ht]; exact hP, va_K.moved hW.alike hK, hD⟩, hS.F ht⟩) hS.2.2 dX9_pollen_128
      refine lv_iload hx hb dX9_pollen_119 (lv_at hl 1 rfl) ?_
      refine lv_sipush (v := 1000) hx hb dX9_pollen_121 (by decide) ?_
      refine lv_icmp_ge (tgt := 129) hx hb dX9_pollen_124 (by decide) (fun c_31 => ?_) (fun c_31 => ?_)
      · refine lv_aload_n hx hb dX9_pollen_129 rfl (lv_at hl 7 rfl) ?_
        refine va_get (D := D) (ci := 9) (v := .ref (ad 5)) (C := RX9) (T := TX9) (N := 44) hx hb hts hin9 hown hK hP 0 rfl rfl 5 (by decide) (hts (.fieldLink RX9 26 "HoneyHouseModel" "low" "[I") (List.mem_of_getElem? (i := 1) rfl)) (fun _ h9 => h9) rfl dX9_pollen_130 ?_
        refine lv_iconst (v := 5) hx hb dX9_pollen_133 (by decide) ?_
        refine lv_iload_n hx hb dX9_pollen_134 rfl (lv_at hl 6 rfl) ?_
        refine lv_imul hx hb dX9_pollen_135 ?_
        refine tp_i (y := nI (5 * j_3)) (pk_mul 5 j_3) ?_
        refine lv_iload_n hx hb dX9_pollen_136 rfl (lv_at hl 5 rfl) ?_
        refine lv_iadd hx hb dX9_pollen_137 ?_
        refine tp_i (y := nI ((5 * j_3) + j_14)) (nI_add (5 * j_3) j_14) ?_
        refine lv_iload_n hx hb dX9_pollen_138 rfl (lv_at hl 4 rfl) ?_
        refine va_iast (f := fv 5) (n := 200) hx hb hK hP hD hS 3 2 rfl rfl (vp_in_nI (n := (5 * j_3) + j_14) (by omega) (by omega)) dX9_pollen_139 (fun H locs hP hD hS => ?_)
        have hP : va_P D vwCl (mw h0 ad cs iv (uF fv 5 (upd (fv 5) (nI ((5 * j_3) + j_14)).toNatClampNeg a3)) gv) H := hP
        have hD : va_D A (mw h0 ad cs iv (uF fv 5 (upd (fv 5) (nI ((5 * j_3) + j_14)).toNatClampNeg a3)) gv) := hD
        obtain ⟨f_32, hf_33⟩ : ∃ g9, g9 = upd (fv 5) (nI ((5 * j_3) + j_14)).toNatClampNeg a3 := ⟨_, rfl⟩
        rw [← hf_33] at hP hD
        rw [nI_clamp (n := (5 * j_3) + j_14) (by omega)] at hf_33
        refine lv_aload_n hx hb dX9_pollen_140 rfl (lv_at hl 7 rfl) ?_
        refine va_get (D := D) (ci := 9) (v := .ref (ad 6)) (C := RX9) (T := TX9) (N := 44) hx hb hts hin9 hown hK hP 0 rfl rfl 6 (by decide) (hts (.fieldLink RX9 29 "HoneyHouseModel" "high" "[I") (List.mem_of_getElem? (i := 2) rfl)) (fun _ h9 => h9) rfl dX9_pollen_141 ?_
        refine lv_iconst (v := 5) hx hb dX9_pollen_144 (by decide) ?_
        refine lv_iload_n hx hb dX9_pollen_145 rfl (lv_at hl 6 rfl) ?_
        refine lv_imul hx hb dX9_pollen_146 ?_
        refine tp_i (y := nI (5 * j_3)) (pk_mul 5 j_3) ?_
        refine lv_iload_n hx hb dX9_pollen_147 rfl (lv_at hl 5 rfl) ?_
        refine lv_iadd hx hb dX9_pollen_148 ?_
        refine tp_i (y := nI ((5 * j_3) + j_14)) (nI_add (5 * j_3) j_14) ?_
        refine lv_iload hx hb dX9_pollen_149 (lv_at hl 3 rfl) ?_
        refine va_iast (f := fv 6) (n := 200) hx hb hK hP hD hS 4 3 rfl rfl (vp_in_nI (n := (5 * j_3) + j_14) (by omega) (by omega)) dX9_pollen_151 (fun H locs hP hD hS => ?_)
        have hP : va_P D vwCl (mw h0 ad cs iv (uF (uF fv 5 f_32) 6 (upd (fv 6) (nI ((5 * j_3) + j_14)).toNatClampNeg a4)) gv) H := hP
        have hD : va_D A (mw h0 ad cs iv (uF (uF fv 5 f_32) 6 (upd (fv 6) (nI ((5 * j_3) + j_14)).toNatClampNeg a4)) gv) := hD
        obtain ⟨f_34, hf_35⟩ : ∃ g9, g9 = upd (fv 6) (nI ((5 * j_3) + j_14)).toNatClampNeg a4 := ⟨_, rfl⟩
        rw [← hf_35] at hP hD
        rw [nI_clamp (n := (5 * j_3) + j_14) (by omega)] at hf_35
        refine lv_iconst (v := 1) hx hb dX9_pollen_152 (by decide) ?_
        have hP : va_P D vwCl (mw h0 ad cs iv (uF (uF fv 5 f_32) 6 f_34) gv) H := hP
        have hD : va_D A (mw h0 ad cs iv (uF (uF fv 5 f_32) 6 f_34) gv) := hD
        exact W.zret (v := 1) hx hb hr rfl (fun t ht hW => ⟨⟨1, 1, rfl, rfl, f_32, f_34, Or.inr ⟨fun h9 => by rcases (polN_j hj_4 (by omega)).mp h9 with (h9 | h9) | h9 | h9 | h9 | h9 | h9 <;> first | contradiction | exact i_le_n (by assumption) h9, rfl, by rw [nI_clamp (n := j_3) (by omega), nI_clamp (n := j_14) (by omega)]; exact hf_33, by rw [nI_clamp (n := j_3) (by omega), nI_clamp (n := j_14) (by omega)]; exact hf_35⟩, by rw [ht]; exact hP, va_K.moved hW.alike hK, hD⟩, hS.F ht⟩) hS.2.2 dX9_pollen_153
      refine lv_iconst (v := 0) hx hb dX9_pollen_127 (by decide) ?_
      have hP : va_P D vwCl (mw h0 ad cs iv (uF (uF fv 5 (fv 5)) 6 (fv 6)) gv) H := hP
      have hD : va_D A (mw h0 ad cs iv (uF (uF fv 5 (fv 5)) 6 (fv 6)) gv) := hD
      exact W.zret (v := 0) hx hb hr rfl (fun t ht hW => ⟨⟨0, 0, rfl, rfl, fv 5, fv 6, Or.inl ⟨(polN_j hj_4 (by omega)).mpr (Or.inr (Or.inr (Or.inr (Or.inr (Or.inr ((i_nle c_31))))))), rfl, rfl, rfl⟩, by rw [ht]; exact hP, va_K.moved hW.alike hK, hD⟩, hS.F ht⟩) hS.2.2 dX9_pollen_128
    have d_36 := n_nle (a := 5) (b := i_22) (by omega) (by omega) c_28
    refine lv_iload hx hb dX9_pollen_53 (lv_at hl 2 rfl) ?_
    refine lv_iload hx hb dX9_pollen_55 (lv_at hl 0 rfl) ?_
    refine lv_iload_n hx hb dX9_pollen_57 rfl (lv_at hl 5 rfl) ?_
    refine lv_icmp_ne (tgt := 65) hx hb dX9_pollen_58 (by decide) (fun c_37 => ?_) (fun c_37 => ?_)
    · have d_38 := n_ne (a := i_22) (b := j_14) (by omega) (by omega) c_37
      refine lv_aload_n hx hb dX9_pollen_65 rfl (lv_at hl 7 rfl) ?_
      refine va_get (D := D) (ci := 9) (v := .ref (ad 5)) (C := RX9) (T := TX9) (N := 44) hx hb hts hin9 hown hK hP 0 rfl rfl 5 (by decide) (hts (.fieldLink RX9 26 "HoneyHouseModel" "low" "[I") (List.mem_of_getElem? (i := 1) rfl)) (fun _ h9 => h9) rfl dX9_pollen_66 ?_
      refine lv_iconst (v := 5) hx hb dX9_pollen_69 (by decide) ?_
      refine lv_iload_n hx hb dX9_pollen_70 rfl (lv_at hl 6 rfl) ?_
      refine lv_imul hx hb dX9_pollen_71 ?_
      refine tp_i (y := nI (5 * j_3)) (pk_mul 5 j_3) ?_
      refine lv_iload hx hb dX9_pollen_72 (lv_at hl 0 rfl) ?_
      refine lv_iadd hx hb dX9_pollen_74 ?_
      refine tp_i (y := nI ((5 * j_3) + i_22)) (nI_add (5 * j_3) i_22) ?_
      refine va_iald (f := fv 5) (n := 200) hx hb hK hP 3 2 rfl rfl (vp_in_nI (n := (5 * j_3) + i_22) (by omega) (by omega)) dX9_pollen_75 ?_
      refine lv_topi (fun z_39 hz_40 => ?_)
      rw [nI_clamp (n := (5 * j_3) + i_22) (by omega)] at hz_40
      obtain rfl : z_39 = fv 5 ((5 * j_3) + i_22) := hz_40
      refine lv_iadd hx hb dX9_pollen_76 ?_
      refine lv_istore (lv' := [(5, .int (x_23 + (fv 5 ((5 * j_3) + i_22)))), (7, .int (nI i_22)), (6, .int y_24), (4, .int a4), (3, .int a3), (2, .int (nI j_14)), (1, .int (nI j_3)), (0, .ref h0)]) hx hb dX9_pollen_77 hl (by decide) rfl (fun ls hl => ?_)
      refine lv_iload hx hb dX9_pollen_79 (lv_at hl 2 rfl) ?_
      refine lv_iload hx hb dX9_pollen_81 (lv_at hl 1 rfl) ?_
      refine lv_iload_n hx hb dX9_pollen_83 rfl (lv_at hl 5 rfl) ?_
      refine lv_icmp_ne (tgt := 91) hx hb dX9_pollen_84 (by decide) (fun c_41 => ?_) (fun c_41 => ?_)
      · have d_42 := n_ne (a := i_22) (b := j_14) (by omega) (by omega) c_41
        refine lv_aload_n hx hb dX9_pollen_91 rfl (lv_at hl 7 rfl) ?_
        refine va_get (D := D) (ci := 9) (v := .ref (ad 6)) (C := RX9) (T := TX9) (N := 44) hx hb hts hin9 hown hK hP 0 rfl rfl 6 (by decide) (hts (.fieldLink RX9 29 "HoneyHouseModel" "high" "[I") (List.mem_of_getElem? (i := 2) rfl)) (fun _ h9 => h9) rfl dX9_pollen_92 ?_
        refine lv_iconst (v := 5) hx hb dX9_pollen_95 (by decide) ?_
        refine lv_iload_n hx hb dX9_pollen_96 rfl (lv_at hl 6 rfl) ?_
        refine lv_imul hx hb dX9_pollen_97 ?_
        refine tp_i (y := nI (5 * j_3)) (pk_mul 5 j_3) ?_
        refine lv_iload hx hb dX9_pollen_98 (lv_at hl 1 rfl) ?_
        refine lv_iadd hx hb dX9_pollen_100 ?_
        refine tp_i (y := nI ((5 * j_3) + i_22)) (nI_add (5 * j_3) i_22) ?_
        refine va_iald (f := fv 6) (n := 200) hx hb hK hP 4 3 rfl rfl (vp_in_nI (n := (5 * j_3) + i_22) (by omega) (by omega)) dX9_pollen_101 ?_
        refine lv_topi (fun z_43 hz_44 => ?_)
        rw [nI_clamp (n := (5 * j_3) + i_22) (by omega)] at hz_44
        obtain rfl : z_43 = fv 6 ((5 * j_3) + i_22) := hz_44
        refine lv_iadd hx hb dX9_pollen_102 ?_
        refine lv_istore (lv' := [(6, .int (y_24 + (fv 6 ((5 * j_3) + i_22)))), (5, .int (x_23 + (fv 5 ((5 * j_3) + i_22)))), (7, .int (nI i_22)), (4, .int a4), (3, .int a3), (2, .int (nI j_14)), (1, .int (nI j_3)), (0, .ref h0)]) hx hb dX9_pollen_103 hl (by decide) rfl (fun ls hl => ?_)
        refine lv_iinc (v := nI (i_22 + 1)) (lv' := [(7, .int (nI (i_22 + 1))), (6, .int (y_24 + (fv 6 ((5 * j_3) + i_22)))), (5, .int (x_23 + (fv 5 ((5 * j_3) + i_22)))), (4, .int a4), (3, .int a3), (2, .int (nI j_14)), (1, .int (nI j_3)), (0, .ref h0)]) hx hb dX9_pollen_105 hl (k := 2) rfl (nI_add i_22 1) (by decide) rfl (fun ls hl => ?_)
        refine lv_goto (tgt := 47) hx hb dX9_pollen_108 (by decide) ?_
        exact ih_21 (i_22 + 1, x_23 + (fv 5 ((5 * j_3) + i_22)), y_24 + (fv 6 ((5 * j_3) + i_22))) (mw h0 ad cs iv fv gv) _ _ ls (by show 5 - (i_22 + 1) < 5 - i_22; omega) ⟨rfl, (show (i_22 + 1) ≤ 5 from by omega), (show (x_23 + (fv 5 ((5 * j_3) + i_22))) = sM (fun i9 => fv 5 (5 * j_3 + i9)) (nI j_14) a3 (i_22 + 1) from by rw [sM_no (show ¬ nI i_22 = nI j_14 by assumption), hx_26]), (show (y_24 + (fv 6 ((5 * j_3) + i_22))) = sM (fun i9 => fv 6 (5 * j_3 + i9)) (nI j_14) a4 (i_22 + 1) from by rw [sM_no (show ¬ nI i_22 = nI j_14 by assumption), hy_27])⟩ hP hD hS (lv_sub hl [0, 1, 2, 3, 4, 5, 6, 7] rfl)
      have d_45 := n_eq (a := i_22) (b := j_14) (by omega) (by omega) c_41
      refine lv_iconst (v := 0) hx hb dX9_pollen_87 (by decide) ?_
      refine lv_goto (tgt := 102) hx hb dX9_pollen_88 (by decide) ?_
      refine lv_iadd hx hb dX9_pollen_102 ?_
      refine lv_istore (lv' := [(6, .int (y_24 + 0)), (5, .int (x_23 + (fv 5 ((5 * j_3) + i_22)))), (7, .int (nI i_22)), (4, .int a4), (3, .int a3), (2, .int (nI j_14)), (1, .int (nI j_3)), (0, .ref h0)]) hx hb dX9_pollen_103 hl (by decide) rfl (fun ls hl => ?_)
      refine lv_iinc (v := nI (i_22 + 1)) (lv' := [(7, .int (nI (i_22 + 1))), (6, .int (y_24 + 0)), (5, .int (x_23 + (fv 5 ((5 * j_3) + i_22)))), (4, .int a4), (3, .int a3), (2, .int (nI j_14)), (1, .int (nI j_3)), (0, .ref h0)]) hx hb dX9_pollen_105 hl (k := 2) rfl (nI_add i_22 1) (by decide) rfl (fun ls hl => ?_)
      refine lv_goto (tgt := 47) hx hb dX9_pollen_108 (by decide) ?_
      exact ih_21 (i_22 + 1, x_23 + (fv 5 ((5 * j_3) + i_22)), y_24 + 0) (mw h0 ad cs iv fv gv) _ _ ls (by show 5 - (i_22 + 1) < 5 - i_22; omega) ⟨rfl, (show (i_22 + 1) ≤ 5 from by omega), (show (x_23 + (fv 5 ((5 * j_3) + i_22))) = sM (fun i9 => fv 5 (5 * j_3 + i9)) (nI j_14) a3 (i_22 + 1) from by rw [sM_no (show ¬ nI i_22 = nI j_14 by assumption), hx_26]), (show (y_24 + 0) = sM (fun i9 => fv 6 (5 * j_3 + i9)) (nI j_14) a4 (i_22 + 1) from by rw [sM_yes (show nI i_22 = nI j_14 by assumption), hy_27])⟩ hP hD hS (lv_sub hl [0, 1, 2, 3, 4, 5, 6, 7] rfl)
    have d_46 := n_eq (a := i_22) (b := j_14) (by omega) (by omega) c_37
    refine lv_iconst (v := 0) hx hb dX9_pollen_61 (by decide) ?_
    refine lv_goto (tgt := 76) hx hb dX9_pollen_62 (by decide) ?_
    refine lv_iadd hx hb dX9_pollen_76 ?_
    refine lv_istore (lv' := [(5, .int (x_23 + 0)), (7, .int (nI i_22)), (6, .int y_24), (4, .int a4), (3, .int a3), (2, .int (nI j_14)), (1, .int (nI j_3)), (0, .ref h0)]) hx hb dX9_pollen_77 hl (by decide) rfl (fun ls hl => ?_)
    refine lv_iload hx hb dX9_pollen_79 (lv_at hl 2 rfl) ?_
    refine lv_iload hx hb dX9_pollen_81 (lv_at hl 1 rfl) ?_
    refine lv_iload_n hx hb dX9_pollen_83 rfl (lv_at hl 5 rfl) ?_
    refine lv_icmp_ne (tgt := 91) hx hb dX9_pollen_84 (by decide) (fun c_47 => ?_) (fun c_47 => ?_)
    · have d_48 := n_ne (a := i_22) (b := j_14) (by omega) (by omega) c_47
      refine lv_aload_n hx hb dX9_pollen_91 rfl (lv_at hl 7 rfl) ?_
      refine va_get (D := D) (ci := 9) (v := .ref (ad 6)) (C := RX9) (T := TX9) (N := 44) hx hb hts hin9 hown hK hP 0 rfl rfl 6 (by decide) (hts (.fieldLink RX9 29 "HoneyHouseModel" "high" "[I") (List.mem_of_getElem? (i := 2) rfl)) (fun _ h9 => h9) rfl dX9_pollen_92 ?_
      refine lv_iconst (v := 5) hx hb dX9_pollen_95 (by decide) ?_
      refine lv_iload_n hx hb dX9_pollen_96 rfl (lv_at hl 6 rfl) ?_
      refine lv_imul hx hb dX9_pollen_97 ?_
      refine tp_i (y := nI (5 * j_3)) (pk_mul 5 j_3) ?_
      refine lv_iload hx hb dX9_pollen_98 (lv_at hl 1 rfl) ?_
      refine lv_iadd hx hb dX9_pollen_100 ?_
      refine tp_i (y := nI ((5 * j_3) + i_22)) (nI_add (5 * j_3) i_22) ?_
      refine va_iald (f := fv 6) (n := 200) hx hb hK hP 4 3 rfl rfl (vp_in_nI (n := (5 * j_3) + i_22) (by omega) (by omega)) dX9_pollen_101 ?_
      refine lv_topi (fun z_49 hz_50 => ?_)
      rw [nI_clamp (n := (5 * j_3) + i_22) (by omega)] at hz_50
      obtain rfl : z_49 = fv 6 ((5 * j_3) + i_22) := hz_50
      refine lv_iadd hx hb dX9_pollen_102 ?_
      refine lv_istore (lv' := [(6, .int (y_24 + (fv 6 ((5 * j_3) + i_22)))), (5, .int (x_23 + 0)), (7, .int (nI i_22)), (4, .int a4), (3, .int a3), (2, .int (nI j_14)), (1, .int (nI j_3)), (0, .ref h0)]) hx hb dX9_pollen_103 hl (by decide) rfl (fun ls hl => ?_)
      refine lv_iinc (v := nI (i_22 + 1)) (lv' := [(7, .int (nI (i_22 + 1))), (6, .int (y_24 + (fv 6 ((5 * j_3) + i_22)))), (5, .int (x_23 + 0)), (4, .int a4), (3, .int a3), (2, .int (nI j_14)), (1, .int (nI j_3)), (0, .ref h0)]) hx hb dX9_pollen_105 hl (k := 2) rfl (nI_add i_22 1) (by decide) rfl (fun ls hl => ?_)
      refine lv_goto (tgt := 47) hx hb dX9_pollen_108 (by decide) ?_
      exact ih_21 (i_22 + 1, x_23 + 0, y_24 + (fv 6 ((5 * j_3) + i_22))) (mw h0 ad cs iv fv gv) _ _ ls (by show 5 - (i_22 + 1) < 5 - i_22; omega) ⟨rfl, (show (i_22 + 1) ≤ 5 from by omega), (show (x_23 + 0) = sM (fun i9 => fv 5 (5 * j_3 + i9)) (nI j_14) a3 (i_22 + 1) from by rw [sM_yes (show nI i_22 = nI j_14 by assumption), hx_26]), (show (y_24 + (fv 6 ((5 * j_3) + i_22))) = sM (fun i9 => fv 6 (5 * j_3 + i9)) (nI j_14) a4 (i_22 + 1) from by rw [sM_no (show ¬ nI i_22 = nI j_14 by assumption), hy_27])⟩ hP hD hS (lv_sub hl [0, 1, 2, 3, 4, 5, 6, 7] rfl)
    have d_51 := n_eq (a := i_22) (b := j_14) (by omega) (by omega) c_47
    refine lv_iconst (v := 0) hx hb dX9_pollen_87 (by decide) ?_
    refine lv_goto (tgt := 102) hx hb dX9_pollen_88 (by decide) ?_
    refine lv_iadd hx hb dX9_pollen_102 ?_
    refine lv_istore (lv' := [(6, .int (y_24 + 0)), (5, .int (x_23 + 0)), (7, .int (nI i_22)), (4, .int a4), (3, .int a3), (2, .int (nI j_14)), (1, .int (nI j_3)), (0, .ref h0)]) hx hb dX9_pollen_103 hl (by decide) rfl (fun ls hl => ?_)
    refine lv_iinc (v := nI (i_22 + 1)) (lv' := [(7, .int (nI (i_22 + 1))), (6, .int (y_24 + 0)), (5, .int (x_23 + 0)), (4, .int a4), (3, .int a3), (2, .int (nI j_14)), (1, .int (nI j_3)), (0, .ref h0)]) hx hb dX9_pollen_105 hl (k := 2) rfl (nI_add i_22 1) (by decide) rfl (fun ls hl => ?_)
    refine lv_goto (tgt := 47) hx hb dX9_pollen_108 (by decide) ?_
    exact ih_21 (i_22 + 1, x_23 + 0, y_24 + 0) (mw h0 ad cs iv fv gv) _ _ ls (by show 5 - (i_22 + 1) < 5 - i_22; omega) ⟨rfl, (show (i_22 + 1) ≤ 5 from by omega), (show (x_23 + 0) = sM (fun i9 => fv 5 (5 * j_3 + i9)) (nI j_14) a3 (i_22 + 1) from by rw [sM_yes (show nI i_22 = nI j_14 by assumption), hx_26]), (show (y_24 + 0) = sM (fun i9 => fv 6 (5 * j_3 + i9)) (nI j_14) a4 (i_22 + 1) from by rw [sM_yes (show nI i_22 = nI j_14 by assumption), hy_27])⟩ hP hD hS (lv_sub hl [0, 1, 2, 3, 4, 5, 6, 7] rfl)
  refine lv_iconst (v := 0) hx hb dX9_pollen_35 (by decide) ?_
  have hP : va_P D vwCl (mw h0 ad cs iv (uF (uF fv 5 (fv 5)) 6 (fv 6)) gv) s.heap := hP
  have hD : va_D A (mw h0 ad cs iv (uF (uF fv 5 (fv 5)) 6 (fv 6)) gv) := hD
  exact W.zret (v := 0) hx hb hr rfl (fun t ht hW => ⟨⟨0, 0, rfl, rfl, fv 5, fv 6, Or.inl ⟨(polN_j hj_4 (by omega)).mpr (Or.inr (Or.inr (Or.inl (i_nle c_20)))), rfl, rfl, rfl⟩, by rw [ht]; exact hP, va_K.moved hW.alike hK, hD⟩, hS.F ht⟩) hS.2.2 dX9_pollen_36
set_option maxHeartbeats 4000000 in
set_option maxRecDepth 100000 in
theorem m_test (l : Launch) (D : va_G) (h0 : Nat) (ad : Nat → Nat) (cs : Nat → ClassId) (iv : Nat → Int32) (fv : Nat → Nat → Int32) (gv : Nat → Int64) (n3 : Nat) (a1 a2 : Int32) (sz : Nat) (h3 : iv 3 = nI n3) (b3 : n3 ≤ 40) : Met l yX9_test wsX9_test ({ frames := 1, cells := 0, slots := 0, locals := 23 }) (va_Pc [.ref h0, .int a1, .int a2] (fun U => U.heap.size = sz ∧ va_P D vwCl (mw h0 ad cs iv fv gv) U.heap ∧ va_K D vwCl (mT cs) U ∧ va_D (fun _ => True) (mw h0 ad cs iv fv gv))) (va_Qi (fun (r u : Int32) => r = u) (fun (r : Int32) (t : State) => ∃ (f4 : Nat → Int32), ((tesN n3 a1 a2 ∧ r = (-1000000000) ∧ f4 = fv 4) ∨ (¬ tesN n3 a1 a2 ∧ r = payL (fv 4) (fv 7) a1.toNatClampNeg a2 - fv 4 (7 * a1.toNatClampNeg + 6) ∧ f4 = tesF (fv 4) (fv 7) a1.toNatClampNeg a2)) ∧ va_P D vwCl (mw h0 ad cs iv (uF fv 4 f4) gv) t.heap ∧ va_K D vwCl (mT cs) t ∧ va_D (va_A (mw h0 ad cs iv fv gv) sz) (mw h0 ad cs iv (uF fv 4 f4) gv)) (va_A (mw h0 ad cs iv fv gv) sz)) 0 0 (va_A (mw h0 ad cs iv fv gv) sz) := by
  refine Met.ofW (cc := cX9_test) (maxL := 4) (ret := (some .int)) (by decide) rfl ?_
  intro p e s m args below meth c s₁ B hml hv
  obtain ⟨rfl, hsz, hP, hK, hD0⟩ := hv
  have hx := B.exec
  have hb := B.bytes
  have hr := B.returns
  have hts := atoms_spec (ws := wsX9_test) B.pre
  have hown : s.vm.findClass RX9 = some m.cls := findClass_of_methodNamed B.named
  have hlocks := B.notSynchronized
  subst hsz
  have hD := hD0.self (sz := s.heap.size)
  generalize hAe : va_A (mw h0 ad cs iv fv gv) s.heap.size = A at hD ⊢
  have hA : ∀ q : Nat, s.heap.size ≤ q → A q := fun q h => by rw [← hAe]; exact Or.inr h
  have hS : va_S A s.heap s.heap [] := va_S.rf
  have hin9 : ∀ w ∈ u_ws RX9 TX9 44, w ∈ wsX9_test := (fun _ h9 => List.mem_cons_of_mem _ ((List.mem_append_right _ h9)))
  have hl := lv_entry ([.ref h0, .int a1, .int a2]) (n := 4) (Nat.le_of_ble_eq_true rfl)
  rw [lg_entry_eq]
  generalize (lg_sl ([.ref h0, .int a1, .int a2]) ++ List.replicate (4 - (lg_sl ([.ref h0, .int a1, .int a2])).length) Slot.unset).toArray = ls at hl ⊢
  have hl : lv_has ls 4 [(0, .ref h0), (1, .int a1), (2, .int a2)] := hl
  refine lv_aload_n hx hb dX9_test_0 rfl (lv_at hl 0 rfl) ?_
  refine lv_iload_n hx hb dX9_test_1 rfl (lv_at hl 1 rfl) ?_
  refine vp_callSi (W.runV (As := [.int a1]) (rest := []) ⟨hx, hb, hml, hown, hts⟩ (m_isLot l D h0 ad cs iv fv gv n3 a1 h3 (by omega)) (cwV 1 hts gX9_test_X9_isLot rfl rfl rfl (by decide +kernel) ⟨Nat.le_of_ble_eq_true rfl, Nat.le_of_ble_eq_true rfl⟩) ⟨fun a U g mk q => ⟨q.1, q.2.1, va_K.moved (u := U) (U := U.calling g mk a) (Vm.Alike.refl U.vm) q.2.2⟩, va_recv hK hP (ci := 9) (q0 := 0) rfl rfl, fun U hU hW => ⟨rfl, by rw [hU]; exact hP, va_K.moved hW.alike hK⟩⟩ rfl rfl hl.1 rfl (lv_room (Nat.le_of_ble_eq_true rfl)) dX9_test_2 ⟨Nat.le_of_ble_eq_true rfl, Nat.le_of_ble_eq_true rfl⟩) (fun r_1 k_2 => ?_)
  rcases k_2 with ⟨rfl, o_5⟩ | ⟨rfl, j_3, hj_4, rfl⟩
  · refine lv_if_eq (tgt := 20) hx hb dX9_test_5 (by decide) (fun c_6 => ?_) (fun c_6 => absurd (by decide) c_6)
    refine lv_ldc hx hb hown (hts (.constant RX9 164 (-1000000000)) (List.mem_of_getElem? (i := 1) rfl)) dX9_test_20 ?_
    have hP : va_P D vwCl (mw h0 ad cs iv (uF fv 4 (fv 4)) gv) s.heap := hP
    have hD : va_D A (mw h0 ad cs iv (uF fv 4 (fv 4)) gv) := hD
    exact W.iret (v := (-1000000000)) hx hb hr (fun t ht hW => ⟨⟨(-1000000000), (-1000000000), rfl, rfl, fv 4, Or.inl ⟨Or.inl o_5, rfl, rfl⟩, by rw [ht]; exact hP, va_K.moved hW.alike hK, hD⟩, hS.F ht⟩) hS.2.2 dX9_test_22
  refine lv_if_eq (tgt := 20) hx hb dX9_test_5 (by decide) (fun c_7 => absurd c_7 (by decide)) (fun c_7 => ?_)
  refine lv_iload_n hx hb dX9_test_8 rfl (lv_at hl 2 rfl) ?_
  refine lv_bipush (v := 100) hx hb dX9_test_9 (by decide) ?_
  refine lv_sipush (v := 300) hx hb dX9_test_11 (by decide) ?_
  refine vp_callSi (W.runS (As := [.int a2, .int 100, .int 300]) (rest := []) ⟨hx, hb, hml, hown, hts⟩ (s_X9_is l a2 100 300) (va_cwS 3 hts gX9_test_X9_is rfl rfl rfl (by decide +kernel) ⟨Nat.le_of_ble_eq_true rfl, Nat.le_of_ble_eq_true rfl⟩) ⟨fun a U g mk q => q, fun U hU hW => ⟨rfl, trivial⟩⟩ rfl rfl hl.1 rfl (lv_room (Nat.le_of_ble_eq_true rfl)) dX9_test_14 ⟨Nat.le_of_ble_eq_true rfl, Nat.le_of_ble_eq_true rfl⟩) (fun r_8 k_9 => ?_)
  rcases k_9 with ⟨rfl, o_10⟩ | ⟨rfl, a_11, b_12⟩
  · refine lv_if_ne (tgt := 23) hx hb dX9_test_17 (by decide) (fun c_13 => absurd (by decide) c_13) (fun c_13 => ?_)
    refine lv_ldc hx hb hown (hts (.constant RX9 164 (-1000000000)) (List.mem_of_getElem? (i := 1) rfl)) dX9_test_20 ?_
    have hP : va_P D vwCl (mw h0 ad cs iv (uF fv 4 (fv 4)) gv) s.heap := hP
    have hD : va_D A (mw h0 ad cs iv (uF fv 4 (fv 4)) gv) := hD
    exact W.iret (v := (-1000000000)) hx hb hr (fun t ht hW => ⟨⟨(-1000000000), (-1000000000), rfl, rfl, fv 4, Or.inl ⟨Or.inr o_10, rfl, rfl⟩, by rw [ht]; exact hP, va_K.moved hW.alike hK, hD⟩, hS.F ht⟩) hS.2.2 dX9_test_22
  obtain ⟨j_14, hj_15, hj_16, rfl⟩ := is_nat (a := 100) (b := 300) a_11 b_12 (by omega)
  refine lv_if_ne (tgt := 23) hx hb dX9_test_17 (by decide) (fun c_17 => ?_) (fun c_17 => absurd c_17 (by decide))
  refine lv_aload_n hx hb dX9_test_23 rfl (lv_at hl 0 rfl) ?_
  refine va_get (D := D) (ci := 9) (v := .ref (ad 4)) (C := RX9) (T := TX9) (N := 44) hx hb hts hin9 hown hK hP 0 rfl rfl 4 (by decide) (hts (.fieldLink RX9 23 "HoneyHouseModel" "lot" "[I") (List.mem_of_getElem? (i := 2) rfl)) (fun _ h9 => h9) rfl dX9_test_24 ?_
  refine lv_bipush (v := 7) hx hb dX9_test_27 (by decide) ?_
  refine lv_iload_n hx hb dX9_test_29 rfl (lv_at hl 1 rfl) ?_
  refine lv_imul hx hb dX9_test_30 ?_
  refine tp_i (y := nI (7 * j_3)) (pk_mul 7 j_3) ?_
  refine lv_bipush (v := 6) hx hb dX9_test_31 (by decide) ?_
  refine lv_iadd hx hb dX9_test_33 ?_
  refine tp_i (y := nI ((7 * j_3) + 6)) (nI_add (7 * j_3) 6) ?_
  refine va_iald (f := fv 4) (n := 280) hx hb hK hP 2 1 rfl rfl (vp_in_nI (n := (7 * j_3) + 6) (by omega) (by omega)) dX9_test_34 ?_
  refine lv_topi (fun z_18 hz_19 => ?_)
  rw [nI_clamp (n := (7 * j_3) + 6) (by omega)] at hz_19
  obtain rfl : z_18 = fv 4 ((7 * j_3) + 6) := hz_19
  refine lv_istore_n (lv' := [(3, .int (fv 4 ((7 * j_3) + 6))), (0, .ref h0), (1, .int (nI j_3)), (2, .int (nI j_14))]) hx hb dX9_test_35 rfl hl (by decide) rfl (fun ls hl => ?_)
  refine lv_aload_n hx hb dX9_test_36 rfl (lv_at hl 1 rfl) ?_
  refine va_get (D := D) (ci := 9) (v := .ref (ad 4)) (C := RX9) (T := TX9) (N := 44) hx hb hts hin9 hown hK hP 0 rfl rfl 4 (by decide) (hts (.fieldLink RX9 23 "HoneyHouseModel" "lot" "[I") (List.mem_of_getElem? (i := 2) rfl)) (fun _ h9 => h9) rfl dX9_test_37 ?_
  refine lv_bipush (v := 7) hx hb dX9_test_40 (by decide) ?_
  refine lv_iload_n hx hb dX9_test_42 rfl (lv_at hl 2 rfl) ?_
  refine lv_imul hx hb dX9_test_43 ?_
  refine tp_i (y := nI (7 * j_3)) (pk_mul 7 j_3) ?_
  refine lv_iconst (v := 2) hx hb dX9_test_44 (by decide) ?_
  refine lv_iadd hx hb dX9_test_45 ?_
  refine tp_i (y := nI ((7 * j_3) + 2)) (nI_add (7 * j_3) 2) ?_
  refine lv_iload_n hx hb dX9_test_46 rfl (lv_at hl 3 rfl) ?_
  refine va_iast (f := fv 4) (n := 280) hx hb hK hP hD hS 2 1 rfl rfl (vp_in_nI (n := (7 * j_3) + 2) (by omega) (by omega)) dX9_test_47 (fun H locs hP hD hS => ?_)
  have hP : va_P D vwCl (mw h0 ad cs iv (uF fv 4 (upd (fv 4) (nI ((7 * j_3) + 2)).toNatClampNeg (nI j_14))) gv) H := hP
  have hD : va_D A (mw h0 ad cs iv (uF fv 4 (upd (fv 4) (nI ((7 * j_3) + 2)).toNatClampNeg (nI j_14))) gv) := hD
  obtain ⟨f_20, hf_21⟩ : ∃ g9, g9 = upd (fv 4) (nI ((7 * j_3) + 2)).toNatClampNeg (nI j_14) := ⟨_, rfl⟩
  rw [← hf_21] at hP hD
  rw [nI_clamp (n := (7 * j_3) + 2) (by omega)] at hf_21
  refine lv_aload_n hx hb dX9_test_48 rfl (lv_at hl 1 rfl) ?_
  refine va_get (D := D) (ci := 9) (v := .ref (ad 4)) (C := RX9) (T := TX9) (N := 44) hx hb hts hin9 hown hK hP 0 rfl rfl 4 (by decide) (hts (.fieldLink RX9 23 "HoneyHouseModel" "lot" "[I") (List.mem_of_getElem? (i := 2) rfl)) (fun _ h9 => h9) rfl dX9_test_49 ?_
  refine lv_bipush (v := 7) hx hb dX9_test_52 (by decide) ?_
  refine lv_iload_n hx hb dX9_test_54 rfl (lv_at hl 2 rfl) ?_
  refine lv_imul hx hb dX9_test_55 ?_
  refine tp_i (y := nI (7 * j_3)) (pk_mul 7 j_3) ?_
  refine lv_bipush (v := 6) hx hb dX9_test_56 (by decide) ?_
  refine lv_iadd hx hb dX9_test_58 ?_
  refine tp_i (y := nI ((7 * j_3) + 6)) (nI_add (7 * j_3) 6) ?_
  refine lv_aload_n hx hb dX9_test_59 rfl (lv_at hl 1 rfl) ?_
  refine lv_iload_n hx hb dX9_test_60 rfl (lv_at hl 2 rfl) ?_
  refine lv_iload_n hx hb dX9_test_61 rfl (lv_at hl 3 rfl) ?_
  refine vp_callSi (W.runV (As := [.int (nI j_3), .int (nI j_14)]) (rest := [.int (nI ((7 * j_3) + 6)), .ref (ad 4)]) ⟨hx, hb, hml, hown, hts⟩ (m_pay l D h0 ad cs iv (uF fv 4 f_20) gv  j_3 (nI j_14)  (by omega)) (cwV 2 hts gX9_test_X9_pay rfl rfl rfl (by decide +kernel) ⟨Nat.le_of_ble_eq_true rfl, Nat.le_of_ble_eq_true rfl⟩) ⟨fun a U g mk q => ⟨q.1, q.2.1, va_K.moved (u := U) (U := U.calling g mk a) (Vm.Alike.refl U.vm) q.2.2⟩, va_recv hK hP (ci := 9) (q0 := 0) rfl rfl, fun U hU hW => ⟨rfl, by rw [hU]; exact hP, va_K.moved hW.alike hK⟩⟩ rfl rfl hl.1 rfl (lv_room (Nat.le_of_ble_eq_true rfl)) dX9_test_62 ⟨Nat.le_of_ble_eq_true rfl, Nat.le_of_ble_eq_true rfl⟩) (fun r_22 k_23 => ?_)
  obtain rfl : r_22 = payL (fv 4) (fv 7) j_3 (nI j_14) := k_23.trans (by show payF _ _ (f_20 (7 * j_3 + 1)) _ = _; rw [hf_21, upd_n (by omega)]; exact payF_congr (fun _ _ => rfl) (fun _ _ => rfl))
  refine va_iast (f := f_20) (n := 280) hx hb hK hP hD hS 2 1 rfl rfl (vp_in_nI (n := (7 * j_3) + 6) (by omega) (by omega)) dX9_test_65 (fun H locs hP hD hS => ?_)
  have hP : va_P D vwCl (mw h0 ad cs iv (uF fv 4 (upd f_20 (nI ((7 * j_3) + 6)).toNatClampNeg (payL (fv 4) (fv 7) j_3 (nI j_14)))) gv) H := hP
  have hD : va_D A (mw h0 ad cs iv (uF fv 4 (upd f_20 (nI ((7 * j_3) + 6)).toNatClampNeg (payL (fv 4) (fv 7) j_3 (nI j_14)))) gv) := hD
  obtain ⟨f_24, hf_25⟩ : ∃ g9, g9 = upd f_20 (nI ((7 * j_3) + 6)).toNatClampNeg (payL (fv 4) (fv 7) j_3 (nI j_14)) := ⟨_, rfl⟩
  rw [← hf_25] at hP hD
  rw [nI_clamp (n := (7 * j_3) + 6) (by omega)] at hf_25
  refine lv_aload_n hx hb dX9_test_66 rfl (lv_at hl 1 rfl) ?_
  refine va_get (D := D) (ci := 9) (v := .ref (ad 4)) (C := RX9) (T := TX9) (N := 44) hx hb hts hin9 hown hK hP 0 rfl rfl 4 (by decide) (hts (.fieldLink RX9 23 "HoneyHouseModel" "lot" "[I") (List.mem_of_getElem? (i := 2) rfl)) (fun _ h9 => h9) rfl dX9_test_67 ?_
  refine lv_bipush (v := 7) hx hb dX9_test_70 (by decide) ?_
  refine lv_iload_n hx hb dX9_test_72 rfl (lv_at hl 2 rfl) ?_
  refine lv_imul hx hb dX9_test_73 ?_
  refine tp_i (y := nI (7 * j_3)) (pk_mul 7 j_3) ?_
  refine lv_bipush (v := 6) hx hb dX9_test_74 (by decide) ?_
  refine lv_iadd hx hb dX9_test_76 ?_
  refine tp_i (y := nI ((7 * j_3) + 6)) (nI_add (7 * j_3) 6) ?_
  refine va_iald (f := f_24) (n := 280) hx hb hK hP 2 1 rfl rfl (vp_in_nI (n := (7 * j_3) + 6) (by omega) (by omega)) dX9_test_77 ?_
  refine lv_topi (fun z_26 hz_27 => ?_)
  rw [nI_clamp (n := (7 * j_3) + 6) (by omega)] at hz_27
  obtain rfl : z_26 = f_24 ((7 * j_3) + 6) := hz_27
  refine lv_iload_n hx hb dX9_test_78 rfl (lv_at hl 0 rfl) ?_
  refine lv_isub hx hb dX9_test_79 ?_
  have hP : va_P D vwCl (mw h0 ad cs iv (uF fv 4 f_24) gv) H := hP
  have hD : va_D A (mw h0 ad cs iv (uF fv 4 f_24) gv) := hD
  exact W.iret (v := (f_24 ((7 * j_3) + 6)) - (fv 4 ((7 * j_3) + 6))) hx hb hr (fun t ht hW => ⟨⟨(f_24 ((7 * j_3) + 6)) - (fv 4 ((7 * j_3) + 6)), (f_24 ((7 * j_3) + 6)) - (fv 4 ((7 * j_3) + 6)), rfl, rfl, f_24, Or.inr ⟨fun h9 => h9.elim (lot_in hj_4 (by omega)) (fun h => Or.elim h a_11 b_12), by rw [nI_clamp (n := j_3) (by omega), hf_25, upd_s], by rw [nI_clamp (n := j_3) (by omega), hf_25, hf_21]; rfl⟩, by rw [ht]; exact hP, va_K.moved hW.alike hK, hD⟩, hS.F ht⟩) hS.2.2 dX9_test_80
set_option maxHeartbeats 4000000 in
set_option maxRecDepth 100000 in
theorem m_tank (l : Launch) (D : va_G) (h0 : Nat) (ad : Nat → Nat) (cs : Nat → ClassId) (iv : Nat → Int32) (fv : Nat → Nat → Int32) (gv : Nat → Int64) (n3 : Nat) (a1 a2 a3 : Int32) (sz : Nat) (h3 : iv 3 = nI n3) (b3 : n3 ≤ 40) (hM : ∀ r9 : Nat, r9 < 70 → mall (fv 9) r9 n3 = mall (fv 9) r9 40) : Met l yX9_tank wsX9_tank ({ frames := 1, cells := 0, slots := 0, locals := 23 }) (va_Pc [.ref h0, .int a1, .int a2, .int a3] (fun U => U.heap.size = sz ∧ va_P D vwCl (mw h0 ad cs iv fv gv) U.heap ∧ va_K D vwCl (mT cs) U ∧ va_D (fun _ => True) (mw h0 ad cs iv fv gv))) (va_Qi (fun (r u : Int32) => r = u) (fun (r : Int32) (t : State) => ∃ (f11 : Nat → Int32) (f12 : Nat → Int32), ((tnkN fv a1 a2 a3 ∧ r = 0 ∧ f11 = fv 11 ∧ f12 = fv 12) ∨ (¬ tnkN fv a1 a2 a3 ∧ r = 1 ∧ f11 = upd (fv 11) a1.toNatClampNeg a2 ∧ f12 = upd (fv 12) a1.toNatClampNeg a3)) ∧ va_P D vwCl (mw h0 ad cs iv (uF (uF fv 11 f11) 12 f12) gv) t.heap ∧ va_K D vwCl (mT cs) t ∧ va_D (va_A (mw h0 ad cs iv fv gv) sz) (mw h0 ad cs iv (uF (uF fv 11 f11) 12 f12) gv)) (va_A (mw h0 ad cs iv fv gv) sz)) 0 0 (va_A (mw h0 ad cs iv fv gv) sz) := by
  refine Met.ofW (cc := cX9_tank) (maxL := 4) (ret := (some .boolean)) (by decide) rfl ?_
  intro p e s m args below meth c s₁ B hml hv
  obtain ⟨rfl, hsz, hP, hK, hD0⟩ := hv
  have hx := B.exec
  have hb := B.bytes
  have hr := B.returns
  have hts := atoms_spec (ws := wsX9_tank) B.pre
  have hown : s.vm.findClass RX9 = some m.cls := findClass_of_methodNamed B.named
  have hlocks := B.notSynchronized
  subst hsz
  have hD := hD0.self (sz := s.heap.size)
  generalize hAe : va_A (mw h0 ad cs iv fv gv) s.heap.size = A at hD ⊢
  have hA : ∀ q : Nat, s.heap.size ≤ q → A q := fun q h => by rw [← hAe]; exact Or.inr h
  have hS : va_S A s.heap s.heap [] := va_S.rf
  have hin9 : ∀ w ∈ u_ws RX9 TX9 44, w ∈ wsX9_tank := (fun _ h9 => List.mem_cons_of_mem _ ((List.mem_append_right _ h9)))
  have hl := lv_entry ([.ref h0, .int a1, .int a2, .int a3]) (n := 4) (Nat.le_of_ble_eq_true rfl)
  rw [lg_entry_eq]
  generalize (lg_sl ([.ref h0, .int a1, .int a2, .int a3]) ++ List.replicate (4 - (lg_sl ([.ref h0, .int a1, .int a2, .int a3])).length) Slot.unset).toArray = ls at hl ⊢
  have hl : lv_has ls 4 [(0, .ref h0), (1, .int a1), (2, .int a2), (3, .int a3)] := hl
  refine lv_iload_n hx hb dX9_tank_0 rfl (lv_at hl 1 rfl) ?_
  refine vp_callSi (W.runS (As := [.int a1]) (rest := []) ⟨hx, hb, hml, hown, hts⟩ (s_X9_isTank l a1) (va_cwS 1 hts gX9_tank_X9_isTank rfl rfl rfl (by decide +kernel) ⟨Nat.le_of_ble_eq_true rfl, Nat.le_of_ble_eq_true rfl⟩) ⟨fun a U g mk q => q, fun U hU hW => ⟨rfl, trivial⟩⟩ rfl rfl hl.1 rfl (lv_room (Nat.le_of_ble_eq_true rfl)) dX9_tank_1 ⟨Nat.le_of_ble_eq_true rfl, Nat.le_of_ble_eq_true rfl⟩) (fun r_1 k_2 => ?_)
  rcases k_2 with ⟨rfl, o_3⟩ | ⟨rfl, a_4, b_5⟩
  · refine lv_if_eq (tgt := 37) hx hb dX9_tank_4 (by decide) (fun c_6 => ?_) (fun c_6 => absurd (by decide) c_6)
    refine lv_iconst (v := 0) hx hb dX9_tank_37 (by decide) ?_
    have hP : va_P D vwCl (mw h0 ad cs iv (uF (uF fv 11 (fv 11)) 12 (fv 12)) gv) s.heap := hP
    have hD : va_D A (mw h0 ad cs iv (uF (uF fv 11 (fv 11)) 12 (fv 12)) gv) := hD
    exact W.zret (v := 0) hx hb hr rfl (fun t ht hW => ⟨⟨0, 0, rfl, rfl, fv 11, fv 12, Or.inl ⟨Or.inl o_3, rfl, rfl, rfl⟩, by rw [ht]; exact hP, va_K.moved hW.alike hK, hD⟩, hS.F ht⟩) hS.2.2 dX9_tank_38
  obtain ⟨j_7, hj_8, hj_9, rfl⟩ := is_nat (a := 0) (b := 9) a_4 b_5 (by omega)
  refine lv_if_eq (tgt := 37) hx hb dX9_tank_4 (by decide) (fun c_10 => absurd c_10 (by decide)) (fun c_10 => ?_)
  refine lv_iload_n hx hb dX9_tank_7 rfl (lv_at hl 2 rfl) ?_
  refine lv_iconst (v := 0) hx hb dX9_tank_8 (by decide) ?_
  refine lv_ldc hx hb hown (hts (.constant RX9 168 (1000000)) (List.mem_of_getElem? (i := 1) rfl)) dX9_tank_9 ?_
  refine vp_callSi (W.runS (As := [.int a2, .int 0, .int 1000000]) (rest := []) ⟨hx, hb, hml, hown, hts⟩ (s_X9_is l a2 0 1000000) (va_cwS 3 hts gX9_tank_X9_is rfl rfl rfl (by decide +kernel) ⟨Nat.le_of_ble_eq_true rfl, Nat.le_of_ble_eq_true rfl⟩) ⟨fun a U g mk q => q, fun U hU hW => ⟨rfl, trivial⟩⟩ rfl rfl hl.1 rfl (lv_room (Nat.le_of_ble_eq_true rfl)) dX9_tank_11 ⟨Nat.le_of_ble_eq_true rfl, Nat.le_of_ble_eq_true rfl⟩) (fun r_11 k_12 => ?_)
  rcases k_12 with ⟨rfl, o_13⟩ | ⟨rfl, a_14, b_15⟩
  · refine lv_if_eq (tgt := 37) hx hb dX9_tank_14 (by decide) (fun c_16 => ?_) (fun c_16 => absurd (by decide) c_16)
    refine lv_iconst (v := 0) hx hb dX9_tank_37 (by decide) ?_
    have hP : va_P D vwCl (mw h0 ad cs iv (uF (uF fv 11 (fv 11)) 12 (fv 12)) gv) s.heap := hP
    have hD : va_D A (mw h0 ad cs iv (uF (uF fv 11 (fv 11)) 12 (fv 12)) gv) := hD
    exact W.zret (v := 0) hx hb hr rfl (fun t ht hW => ⟨⟨0, 0, rfl, rfl, fv 11, fv 12, Or.inl ⟨Or.inr (Or.inl o_13), rfl, rfl, rfl⟩, by rw [ht]; exact hP, va_K.moved hW.alike hK, hD⟩, hS.F ht⟩) hS.2.2 dX9_tank_38
  obtain ⟨j_17, hj_18, hj_19, rfl⟩ := is_nat (a := 0) (b := 1000000) a_14 b_15 (by omega)
  refine lv_if_eq (tgt := 37) hx hb dX9_tank_14 (by decide) (fun c_20 => absurd c_20 (by decide)) (fun c_20 => ?_)
  refine lv_iload_n hx hb dX9_tank_17 rfl (lv_at hl 3 rfl) ?_
  refine lv_iconst (v := 0) hx hb dX9_tank_18 (by decide) ?_
  refine lv_sipush (v := 10000) hx hb dX9_tank_19 (by decide) ?_
  refine vp_callSi (W.runS (As := [.int a3, .int 0, .int 10000]) (rest := []) ⟨hx, hb, hml, hown, hts⟩ (s_X9_is l a3 0 10000) (va_cwS 3 hts gX9_tank_X9_is rfl rfl rfl (by decide +kernel) ⟨Nat.le_of_ble_eq_true rfl, Nat.le_of_ble_eq_true rfl⟩) ⟨fun a U g mk q => q, fun U hU hW => ⟨rfl, trivial⟩⟩ rfl rfl hl.1 rfl (lv_room (Nat.le_of_ble_eq_true rfl)) dX9_tank_22 ⟨Nat.le_of_ble_eq_true rfl, Nat.le_of_ble_eq_true rfl⟩) (fun r_21 k_22 => ?_)
  rcases k_22 with ⟨rfl, o_23⟩ | ⟨rfl, a_24, b_25⟩
  · refine lv_if_eq (tgt := 37) hx hb dX9_tank_25 (by decide) (fun c_26 => ?_) (fun c_26 => absurd (by decide) c_26)
    refine lv_iconst (v := 0) hx hb dX9_tank_37 (by decide) ?_
    have hP : va_P D vwCl (mw h0 ad cs iv (uF (uF fv 11 (fv 11)) 12 (fv 12)) gv) s.heap := hP
    have hD : va_D A (mw h0 ad cs iv (uF (uF fv 11 (fv 11)) 12 (fv 12)) gv) := hD
    exact W.zret (v := 0) hx hb hr rfl (fun t ht hW => ⟨⟨0, 0, rfl, rfl, fv 11, fv 12, Or.inl ⟨Or.inr (Or.inr (Or.inl o_23)), rfl, rfl, rfl⟩, by rw [ht]; exact hP, va_K.moved hW.alike hK, hD⟩, hS.F ht⟩) hS.2.2 dX9_tank_38
  obtain ⟨j_27, hj_28, hj_29, rfl⟩ := is_nat (a := 0) (b := 10000) a_24 b_25 (by omega)
  refine lv_if_eq (tgt := 37) hx hb dX9_tank_25 (by decide) (fun c_30 => absurd c_30 (by decide)) (fun c_30 => ?_)
  refine lv_aload_n hx hb dX9_tank_28 rfl (lv_at hl 0 rfl) ?_
  refine lv_iload_n hx hb dX9_tank_29 rfl (lv_at hl 1 rfl) ?_
  refine vp_callSi (W.runV (As := [.int (nI j_7)]) (rest := []) ⟨hx, hb, hml, hown, hts⟩ (m_all l D h0 ad cs iv fv gv n3 j_7 h3 (by omega) (by omega)) (cwV 1 hts gX9_tank_X9_all rfl rfl rfl (by decide +kernel) ⟨Nat.le_of_ble_eq_true rfl, Nat.le_of_ble_eq_true rfl⟩) ⟨fun a U g mk q => ⟨q.1, q.2.1, va_K.moved (u := U) (U := U.calling g mk a) (Vm.Alike.refl U.vm) q.2.2⟩, va_recv hK hP (ci := 9) (q0 := 0) rfl rfl, fun U hU hW => ⟨rfl, by rw [hU]; exact hP, va_K.moved hW.alike hK⟩⟩ rfl rfl hl.1 rfl (lv_room (Nat.le_of_ble_eq_true rfl)) dX9_tank_30 ⟨Nat.le_of_ble_eq_true rfl, Nat.le_of_ble_eq_true rfl⟩) (fun r_31 k_32 => ?_)
  refine lv_iload_n hx hb dX9_tank_33 rfl (lv_at hl 2 rfl) ?_
  refine lv_icmp_le (tgt := 39) hx hb dX9_tank_34 (by decide) (fun c_33 => ?_) (fun c_33 => ?_)
  · refine lv_aload_n hx hb dX9_tank_39 rfl (lv_at hl 0 rfl) ?_
    refine va_get (D := D) (ci := 9) (v := .ref (ad 11)) (C := RX9) (T := TX9) (N := 44) hx hb hts hin9 hown hK hP 0 rfl rfl 11 (by decide) (hts (.fieldLink RX9 44 "HoneyHouseModel" "room" "[I") (List.mem_of_getElem? (i := 2) rfl)) (fun _ h9 => h9) rfl dX9_tank_40 ?_
    refine lv_iload_n hx hb dX9_tank_43 rfl (lv_at hl 1 rfl) ?_
    refine lv_iload_n hx hb dX9_tank_44 rfl (lv_at hl 2 rfl) ?_
    refine va_iast (f := fv 11) (n := 70) hx hb hK hP hD hS 9 8 rfl rfl (vp_in_nI (n := j_7) (by omega) (by omega)) dX9_tank_45 (fun H locs hP hD hS => ?_)
    have hP : va_P D vwCl (mw h0 ad cs iv (uF fv 11 (upd (fv 11) (nI j_7).toNatClampNeg (nI j_17))) gv) H := hP
    have hD : va_D A (mw h0 ad cs iv (uF fv 11 (upd (fv 11) (nI j_7).toNatClampNeg (nI j_17))) gv) := hD
    obtain ⟨f_34, hf_35⟩ : ∃ g9, g9 = upd (fv 11) (nI j_7).toNatClampNeg (nI j_17) := ⟨_, rfl⟩
    rw [← hf_35] at hP hD
    rw [nI_clamp (n := j_7) (by omega)] at hf_35
    refine lv_aload_n hx hb dX9_tank_46 rfl (lv_at hl 0 rfl) ?_
    refine va_get (D := D) (ci := 9) (v := .ref (ad 12)) (C := RX9) (T := TX9) (N := 44) hx hb hts hin9 hown hK hP 0 rfl rfl 12 (by decide) (hts (.fieldLink RX9 47 "HoneyHouseModel" "price" "[I") (List.mem_of_getElem? (i := 3) rfl)) (fun _ h9 => h9) rfl dX9_tank_47 ?_
    refine lv_iload_n hx hb dX9_tank_50 rfl (lv_at hl 1 rfl) ?_
    refine lv_iload_n hx hb dX9_tank_51 rfl (lv_at hl 3 rfl) ?_
    refine va_iast (f := fv 12) (n := 70) hx hb hK hP hD hS 10 9 rfl rfl (vp_in_nI (n := j_7) (by omega) (by omega)) dX9_tank_52 (fun H locs hP hD hS => ?_)
    have hP : va_P D vwCl (mw h0 ad cs iv (uF (uF fv 11 f_34) 12 (upd (fv 12) (nI j_7).toNatClampNeg (nI j_27))) gv) H := hP
    have hD : va_D A (mw h0 ad cs iv (uF (uF fv 11 f_34) 12 (upd (fv 12) (nI j_7).toNatClampNeg (nI j_27))) gv) := hD
    obtain ⟨f_36, hf_37⟩ : ∃ g9, g9 = upd (fv 12) (nI j_7).toNatClampNeg (nI j_27) := ⟨_, rfl⟩
    rw [← hf_37] at hP hD
    rw [nI_clamp (n := j_7) (by omega)] at hf_37
    refine lv_iconst (v := 1) hx hb dX9_tank_53 (by decide) ?_
    have hP : va_P D vwCl (mw h0 ad cs iv (uF (uF fv 11 f_34) 12 f_36) gv) H := hP
    have hD : va_D A (mw h0 ad cs iv (uF (uF fv 11 f_34) 12 f_36) gv) := hD
    exact W.zret (v := 1) hx hb hr rfl (fun t ht hW => ⟨⟨1, 1, rfl, rfl, f_34, f_36, Or.inr ⟨(fun h => Or.elim h (fun h => Or.elim h a_4 b_5) (fun h => Or.elim h (fun h => Or.elim h a_14 b_15) (fun h => Or.elim h (fun h => Or.elim h a_24 b_25) (fun h9 => i_le_n c_33 (by rw [nI_clamp (n := j_7) (by omega), ← hM j_7 (by omega), ← k_32] at h9; exact h9))))), rfl, by rw [nI_clamp (n := j_7) (by omega)]; exact hf_35, by rw [nI_clamp (n := j_7) (by omega)]; exact hf_37⟩, by rw [ht]; exact hP, va_K.moved hW.alike hK, hD⟩, hS.F ht⟩) hS.2.2 dX9_tank_54
  refine lv_iconst (v := 0) hx hb dX9_tank_37 (by decide) ?_
  have hP : va_P D vwCl (mw h0 ad cs iv (uF (uF fv 11 (fv 11)) 12 (fv 12)) gv) s.heap := hP
  have hD : va_D A (mw h0 ad cs iv (uF (uF fv 11 (fv 11)) 12 (fv 12)) gv) := hD
  exact W.zret (v := 0) hx hb hr rfl (fun t ht hW => ⟨⟨0, 0, rfl, rfl, fv 11, fv 12, Or.inl ⟨Or.inr (Or.inr (Or.inr ((by rw [nI_clamp (n := j_7) (by omega), ← hM j_7 (by omega), ← k_32]; exact i_nle c_33)))), rfl, rfl, rfl⟩, by rw [ht]; exact hP, va_K.moved hW.alike hK, hD⟩, hS.F ht⟩) hS.2.2 dX9_tank_38
set_option maxHeartbeats 4000000 in
set_option maxRecDepth 100000 in
theorem m_warm (l : Launch) (D : va_G) (h0 : Nat) (ad : Nat → Nat) (cs : Nat → ClassId) (iv : Nat → Int32) (fv : Nat → Nat → Int32) (gv : Nat → Int64) (n3 : Nat) (a1 a2 : Int32) (sz : Nat) (h3 : iv 3 = nI n3) (b3 : n3 ≤ 40) (hM : ∀ r9 : Nat, r9 < 70 → mall (fv 9) r9 n3 = mall (fv 9) r9 40) : Met l yX9_warm wsX9_warm ({ frames := 1, cells := 0, slots := 0, locals := 23 }) (va_Pc [.ref h0, .int a1, .int a2] (fun U => U.heap.size = sz ∧ va_P D vwCl (mw h0 ad cs iv fv gv) U.heap ∧ va_K D vwCl (mT cs) U ∧ va_D (fun _ => True) (mw h0 ad cs iv fv gv))) (va_Qi (fun (r u : Int32) => r = u) (fun (r : Int32) (t : State) => ∃ (f10 : Nat → Int32), ((wrmN fv a1 a2 ∧ r = (-1) ∧ f10 = fv 10) ∨ (¬ wrmN fv a1 a2 ∧ r = fv 10 a1.toNatClampNeg + a2 ∧ f10 = upd (fv 10) a1.toNatClampNeg (fv 10 a1.toNatClampNeg + a2))) ∧ va_P D vwCl (mw h0 ad cs iv (uF fv 10 f10) gv) t.heap ∧ va_K D vwCl (mT cs) t ∧ va_D (va_A (mw h0 ad cs iv fv gv) sz) (mw h0 ad cs iv (uF fv 10 f10) gv)) (va_A (mw h0 ad cs iv fv gv) sz)) 0 0 (va_A (mw h0 ad cs iv fv gv) sz) := by
  refine Met.ofW (cc := cX9_warm) (maxL := 3) (ret := (some .int)) (by decide) rfl ?_
  intro p e s m args below meth c s₁ B hml hv
  obtain ⟨rfl, hsz, hP, hK, hD0⟩ := hv
  have hx := B.exec
  have hb := B.bytes
  have hr := B.returns
  have hts := atoms_spec (ws := wsX9_warm) B.pre
  have hown : s.vm.findClass RX9 = some m.cls := findClass_of_methodNamed B.named
  have hlocks := B.notSynchronized
  subst hsz
  have hD := hD0.self (sz := s.heap.size)
  generalize hAe : va_A (mw h0 ad cs iv fv gv) s.heap.size = A at hD ⊢
  have hA : ∀ q : Nat, s.heap.size ≤ q → A q := fun q h => by rw [← hAe]; exact Or.inr h
  have hS : va_S A s.heap s.heap [] := va_S.rf
  have hin9 : ∀ w ∈ u_ws RX9 TX9 44, w ∈ wsX9_warm := (fun _ h9 => List.mem_cons_of_mem _ ((List.mem_append_right _ h9)))
  have hl := lv_entry ([.ref h0, .int a1, .int a2]) (n := 3) (Nat.le_of_ble_eq_true rfl)
  rw [lg_entry_eq]
  generalize (lg_sl ([.ref h0, .int a1, .int a2]) ++ List.replicate (3 - (lg_sl ([.ref h0, .int a1, .int a2])).length) Slot.unset).toArray = ls at hl ⊢
  have hl : lv_has ls 3 [(0, .ref h0), (1, .int a1), (2, .int a2)] := hl
  refine lv_iload_n hx hb dX9_warm_0 rfl (lv_at hl 1 rfl) ?_
  refine vp_callSi (W.runS (As := [.int a1]) (rest := []) ⟨hx, hb, hml, hown, hts⟩ (s_X9_isTank l a1) (va_cwS 1 hts gX9_warm_X9_isTank rfl rfl rfl (by decide +kernel) ⟨Nat.le_of_ble_eq_true rfl, Nat.le_of_ble_eq_true rfl⟩) ⟨fun a U g mk q => q, fun U hU hW => ⟨rfl, trivial⟩⟩ rfl rfl hl.1 rfl (lv_room (Nat.le_of_ble_eq_true rfl)) dX9_warm_1 ⟨Nat.le_of_ble_eq_true rfl, Nat.le_of_ble_eq_true rfl⟩) (fun r_1 k_2 => ?_)
  rcases k_2 with ⟨rfl, o_3⟩ | ⟨rfl, a_4, b_5⟩
  · refine lv_if_eq (tgt := 26) hx hb dX9_warm_4 (by decide) (fun c_6 => ?_) (fun c_6 => absurd (by decide) c_6)
    refine lv_iconst (v := (-1)) hx hb dX9_warm_26 (by decide) ?_
    have hP : va_P D vwCl (mw h0 ad cs iv (uF fv 10 (fv 10)) gv) s.heap := hP
    have hD : va_D A (mw h0 ad cs iv (uF fv 10 (fv 10)) gv) := hD
    exact W.iret (v := (-1)) hx hb hr (fun t ht hW => ⟨⟨(-1), (-1), rfl, rfl, fv 10, Or.inl ⟨Or.inl o_3, rfl, rfl⟩, by rw [ht]; exact hP, va_K.moved hW.alike hK, hD⟩, hS.F ht⟩) hS.2.2 dX9_warm_27
  obtain ⟨j_7, hj_8, hj_9, rfl⟩ := is_nat (a := 0) (b := 9) a_4 b_5 (by omega)
  refine lv_if_eq (tgt := 26) hx hb dX9_warm_4 (by decide) (fun c_10 => absurd c_10 (by decide)) (fun c_10 => ?_)
  refine lv_aload_n hx hb dX9_warm_7 rfl (lv_at hl 0 rfl) ?_
  refine lv_iload_n hx hb dX9_warm_8 rfl (lv_at hl 1 rfl) ?_
  refine vp_callSi (W.runV (As := [.int (nI j_7)]) (rest := []) ⟨hx, hb, hml, hown, hts⟩ (m_all l D h0 ad cs iv fv gv n3 j_7 h3 (by omega) (by omega)) (cwV 1 hts gX9_warm_X9_all rfl rfl rfl (by decide +kernel) ⟨Nat.le_of_ble_eq_true rfl, Nat.le_of_ble_eq_true rfl⟩) ⟨fun a U g mk q => ⟨q.1, q.2.1, va_K.moved (u := U) (U := U.calling g mk a) (Vm.Alike.refl U.vm) q.2.2⟩, va_recv hK hP (ci := 9) (q0 := 0) rfl rfl, fun U hU hW => ⟨rfl, by rw [hU]; exact hP, va_K.moved hW.alike hK⟩⟩ rfl rfl hl.1 rfl (lv_room (Nat.le_of_ble_eq_true rfl)) dX9_warm_9 ⟨Nat.le_of_ble_eq_true rfl, Nat.le_of_ble_eq_true rfl⟩) (fun r_11 k_12 => ?_)
  refine lv_if_eq (tgt := 26) hx hb dX9_warm_12 (by decide) (fun c_13 => ?_) (fun c_13 => ?_)
  · refine lv_iconst (v := (-1)) hx hb dX9_warm_26 (by decide) ?_
    have hP : va_P D vwCl (mw h0 ad cs iv (uF fv 10 (fv 10)) gv) s.heap := hP
    have hD : va_D A (mw h0 ad cs iv (uF fv 10 (fv 10)) gv) := hD
    exact W.iret (v := (-1)) hx hb hr (fun t ht hW => ⟨⟨(-1), (-1), rfl, rfl, fv 10, Or.inl ⟨Or.inr (Or.inl (by rw [nI_clamp (n := j_7) (by omega), ← hM j_7 (by omega), ← k_12]; exact c_13)), rfl, rfl⟩, by rw [ht]; exact hP, va_K.moved hW.alike hK, hD⟩, hS.F ht⟩) hS.2.2 dX9_warm_27
  refine lv_iload_n hx hb dX9_warm_15 rfl (lv_at hl 2 rfl) ?_
  refine lv_iconst (v := 1) hx hb dX9_warm_16 (by decide) ?_
  refine lv_sipush (v := 1000) hx hb dX9_warm_17 (by decide) ?_
  refine vp_callSi (W.runS (As := [.int a2, .int 1, .int 1000]) (rest := []) ⟨hx, hb, hml, hown, hts⟩ (s_X9_is l a2 1 1000) (va_cwS 3 hts gX9_warm_X9_is rfl rfl rfl (by decide +kernel) ⟨Nat.le_of_ble_eq_true rfl, Nat.le_of_ble_eq_true rfl⟩) ⟨fun a U g mk q => q, fun U hU hW => ⟨rfl, trivial⟩⟩ rfl rfl hl.1 rfl (lv_room (Nat.le_of_ble_eq_true rfl)) dX9_warm_20 ⟨Nat.le_of_ble_eq_true rfl, Nat.le_of_ble_eq_true rfl⟩) (fun r_14 k_15 => ?_)
  rcases k_15 with ⟨rfl, o_16⟩ | ⟨rfl, a_17, b_18⟩
  · refine lv_if_ne (tgt := 28) hx hb dX9_warm_23 (by decide) (fun c_19 => absurd (by decide) c_19) (fun c_19 => ?_)
    refine lv_iconst (v := (-1)) hx hb dX9_warm_26 (by decide) ?_
    have hP : va_P D vwCl (mw h0 ad cs iv (uF fv 10 (fv 10)) gv) s.heap := hP
    have hD : va_D A (mw h0 ad cs iv (uF fv 10 (fv 10)) gv) := hD
    exact W.iret (v := (-1)) hx hb hr (fun t ht hW => ⟨⟨(-1), (-1), rfl, rfl, fv 10, Or.inl ⟨Or.inr (Or.inr (o_16)), rfl, rfl⟩, by rw [ht]; exact hP, va_K.moved hW.alike hK, hD⟩, hS.F ht⟩) hS.2.2 dX9_warm_27
  obtain ⟨j_20, hj_21, hj_22, rfl⟩ := is_nat (a := 1) (b := 1000) a_17 b_18 (by omega)
  refine lv_if_ne (tgt := 28) hx hb dX9_warm_23 (by decide) (fun c_23 => ?_) (fun c_23 => absurd c_23 (by decide))
  refine lv_aload_n hx hb dX9_warm_28 rfl (lv_at hl 0 rfl) ?_
  refine va_get (D := D) (ci := 9) (v := .ref (ad 10)) (C := RX9) (T := TX9) (N := 44) hx hb hts hin9 hown hK hP 0 rfl rfl 10 (by decide) (hts (.fieldLink RX9 41 "HoneyHouseModel" "heat" "[I") (List.mem_of_getElem? (i := 1) rfl)) (fun _ h9 => h9) rfl dX9_warm_29 ?_
  refine lv_iload_n hx hb dX9_warm_32 rfl (lv_at hl 1 rfl) ?_
  refine lv_dup2_11 hx hb dX9_warm_33 rfl rfl ?_
  refine va_iald (f := fv 10) (n := 70) hx hb hK hP 8 7 rfl rfl (vp_in_nI (n := j_7) (by omega) (by omega)) dX9_warm_34 ?_
  refine lv_topi (fun z_24 hz_25 => ?_)
  rw [nI_clamp (n := j_7) (by omega)] at hz_25
  obtain rfl : z_24 = fv 10 j_7 := hz_25
  refine lv_iload_n hx hb dX9_warm_35 rfl (lv_at hl 2 rfl) ?_
  refine lv_iadd hx hb dX9_warm_36 ?_
  refine va_iast (f := fv 10) (n := 70) hx hb hK hP hD hS 8 7 rfl rfl (vp_in_nI (n := j_7) (by omega) (by omega)) dX9_warm_37 (fun H locs hP hD hS => ?_)
  have hP : va_P D vwCl (mw h0 ad cs iv (uF fv 10 (upd (fv 10) (nI j_7).toNatClampNeg ((fv 10 j_7) + (nI j_20)))) gv) H := hP
  have hD : va_D A (mw h0 ad cs iv (uF fv 10 (upd (fv 10) (nI j_7).toNatClampNeg ((fv 10 j_7) + (nI j_20)))) gv) := hD
  obtain ⟨f_26, hf_27⟩ : ∃ g9, g9 = upd (fv 10) (nI j_7).toNatClampNeg ((fv 10 j_7) + (nI j_20)) := ⟨_, rfl⟩
  rw [← hf_27] at hP hD
  rw [nI_clamp (n := j_7) (by omega)] at hf_27
  refine lv_aload_n hx hb dX9_warm_38 rfl (lv_at hl 0 rfl) ?_
  refine va_get (D := D) (ci := 9) (v := .ref (ad 10)) (C := RX9) (T := TX9) (N := 44) hx hb hts hin9 hown hK hP 0 rfl rfl 10 (by decide) (hts (.fieldLink RX9 41 "HoneyHouseModel" "heat" "[I") (List.mem_of_getElem? (i := 1) rfl)) (fun _ h9 => h9) rfl dX9_warm_39 ?_
  refine lv_iload_n hx hb dX9_warm_42 rfl (lv_at hl 1 rfl) ?_
  refine va_iald (f := f_26) (n := 70) hx hb hK hP 8 7 rfl rfl (vp_in_nI (n := j_7) (by omega) (by omega)) dX9_warm_43 ?_
  refine lv_topi (fun z_28 hz_29 => ?_)
  rw [nI_clamp (n := j_7) (by omega)] at hz_29
  obtain rfl : z_28 = f_26 j_7 := hz_29
  have hP : va_P D vwCl (mw h0 ad cs iv (uF fv 10 f_26) gv) H := hP
  have hD : va_D A (mw h0 ad cs iv (uF fv 10 f_26) gv) := hD
  exact W.iret (v := f_26 j_7) hx hb hr (fun t ht hW => ⟨⟨f_26 j_7, f_26 j_7, rfl, rfl, f_26, Or.inr ⟨(fun h => Or.elim h (fun h => Or.elim h a_4 b_5) (fun h => Or.elim h (fun h9 => c_13 (by rw [nI_clamp (n := j_7) (by omega), ← hM j_7 (by omega), ← k_12] at h9; exact h9)) (fun h => Or.elim h a_17 b_18))), by rw [nI_clamp (n := j_7) (by omega), hf_27, upd_s], by rw [nI_clamp (n := j_7) (by omega)]; exact hf_27⟩, by rw [ht]; exact hP, va_K.moved hW.alike hK, hD⟩, hS.F ht⟩) hS.2.2 dX9_warm_44
set_option maxHeartbeats 4000000 in
set_option maxRecDepth 100000 in
theorem m_pour (l : Launch) (D : va_G) (h0 : Nat) (ad : Nat → Nat) (cs : Nat → ClassId) (iv : Nat → Int32) (fv : Nat → Nat → Int32) (gv : Nat → Int64) (n3 : Nat) (a1 a2 a3 : Int32) (sz : Nat) (h3 : iv 3 = nI n3) (b3 : n3 ≤ 40) (hM : ∀ r9 : Nat, r9 < 70 → mall (fv 9) r9 n3 = mall (fv 9) r9 40) : Met l yX9_pour wsX9_pour ({ frames := 1, cells := 0, slots := 0, locals := 23 }) (va_Pc [.ref h0, .int a1, .int a2, .int a3] (fun U => U.heap.size = sz ∧ va_P D vwCl (mw h0 ad cs iv fv gv) U.heap ∧ va_K D vwCl (mT cs) U ∧ va_D (fun _ => True) (mw h0 ad cs iv fv gv))) (va_Qi (fun (r u : Int32) => r = u) (fun (r : Int32) (t : State) => ∃ (f4 : Nat → Int32) (f9 : Nat → Int32), ((pouN fv n3 a1 a2 a3 ∧ r = (if ((a1 < 0 ∨ nI n3 ≤ a1) ∨ (a2 < 0 ∨ 9 < a2)) then (-1) else (-2)) ∧ f4 = fv 4 ∧ f9 = fv 9) ∨ (¬ pouN fv n3 a1 a2 a3 ∧ r = fv 4 (7 * a1.toNatClampNeg + 5) - a3 ∧ f4 = upd (fv 4) (7 * a1.toNatClampNeg + 5) (fv 4 (7 * a1.toNatClampNeg + 5) - a3) ∧ f9 = upd (fv 9) (40 * a2.toNatClampNeg + a1.toNatClampNeg) (fv 9 (40 * a2.toNatClampNeg + a1.toNatClampNeg) + a3))) ∧ va_P D vwCl (mw h0 ad cs iv (uF (uF fv 4 f4) 9 f9) gv) t.heap ∧ va_K D vwCl (mT cs) t ∧ va_D (va_A (mw h0 ad cs iv fv gv) sz) (mw h0 ad cs iv (uF (uF fv 4 f4) 9 f9) gv)) (va_A (mw h0 ad cs iv fv gv) sz)) 0 0 (va_A (mw h0 ad cs iv fv gv) sz) := by
  refine Met.ofW (cc := cX9_pour) (maxL := 4) (ret := (some .int)) (by decide) rfl ?_
  intro p e s m args below meth c s₁ B hml hv
  obtain ⟨rfl, hsz, hP, hK, hD0⟩ := hv
  have hx := B.exec
  have hb := B.bytes
  have hr := B.returns
  have hts := atoms_spec (ws := wsX9_pour) B.pre
  have hown : s.vm.findClass RX9 = some m.cls := findClass_of_methodNamed B.named
  have hlocks := B.notSynchronized
  subst hsz
  have hD := hD0.self (sz := s.heap.size)
  generalize hAe : va_A (mw h0 ad cs iv fv gv) s.heap.size = A at hD ⊢
  have hA : ∀ q : Nat, s.heap.size ≤ q → A q := fun q h => by rw [← hAe]; exact Or.inr h
  have hS : va_S A s.heap s.heap [] := va_S.rf
  have hin9 : ∀ w ∈ u_ws RX9 TX9 44, w ∈ wsX9_pour := (fun _ h9 => List.mem_cons_of_mem _ ((List.mem_append_right _ h9)))
  have hl := lv_entry ([.ref h0, .int a1, .int a2, .int a3]) (n := 4) (Nat.le_of_ble_eq_true rfl)
  rw [lg_entry_eq]
  generalize (lg_sl ([.ref h0, .int a1, .int a2, .int a3]) ++ List.replicate (4 - (lg_sl ([.ref h0, .int a1, .int a2, .int a3])).length) Slot.unset).toArray = ls at hl ⊢
  have hl : lv_has ls 4 [(0, .ref h0), (1, .int a1), (2, .int a2), (3, .int a3)] := hl
  refine lv_aload_n hx hb dX9_pour_0 rfl (lv_at hl 0 rfl) ?_
  refine lv_iload_n hx hb dX9_pour_1 rfl (lv_at hl 1 rfl) ?_
  refine vp_callSi (W.runV (As := [.int a1]) (rest := []) ⟨hx, hb, hml, hown, hts⟩ (m_isLot l D h0 ad cs iv fv gv n3 a1 h3 (by omega)) (cwV 1 hts gX9_pour_X9_isLot rfl rfl rfl (by decide +kernel) ⟨Nat.le_of_ble_eq_true rfl, Nat.le_of_ble_eq_true rfl⟩) ⟨fun a U g mk q => ⟨q.1, q.2.1, va_K.moved (u := U) (U := U.calling g mk a) (Vm.Alike.refl U.vm) q.2.2⟩, va_recv hK hP (ci := 9) (q0 := 0) rfl rfl, fun U hU hW => ⟨rfl, by rw [hU]; exact hP, va_K.moved hW.alike hK⟩⟩ rfl rfl hl.1 rfl (lv_room (Nat.le_of_ble_eq_true rfl)) dX9_pour_2 ⟨Nat.le_of_ble_eq_true rfl, Nat.le_of_ble_eq_true rfl⟩) (fun r_1 k_2 => ?_)
  rcases k_2 with ⟨rfl, o_5⟩ | ⟨rfl, j_3, hj_4, rfl⟩
  · refine lv_if_eq (tgt := 15) hx hb dX9_pour_5 (by decide) (fun c_6 => ?_) (fun c_6 => absurd (by decide) c_6)
    refine lv_iconst (v := (-1)) hx hb dX9_pour_15 (by decide) ?_
    have hP : va_P D vwCl (mw h0 ad cs iv (uF (uF fv 4 (fv 4)) 9 (fv 9)) gv) s.heap := hP
    have hD : va_D A (mw h0 ad cs iv (uF (uF fv 4 (fv 4)) 9 (fv 9)) gv) := hD
    exact W.iret (v := (-1)) hx hb hr (fun t ht hW => ⟨⟨(-1), (-1), rfl, rfl, fv 4, fv 9, Or.inl ⟨Or.inl (Or.inl o_5), (if_pos (Or.inl o_5)).symm, rfl, rfl⟩, by rw [ht]; exact hP, va_K.moved hW.alike hK, hD⟩, hS.F ht⟩) hS.2.2 dX9_pour_16
  refine lv_if_eq (tgt := 15) hx hb dX9_pour_5 (by decide) (fun c_7 => absurd c_7 (by decide)) (fun c_7 => ?_)
  refine lv_iload_n hx hb dX9_pour_8 rfl (lv_at hl 2 rfl) ?_
  refine vp_callSi (W.runS (As := [.int a2]) (rest := []) ⟨hx, hb, hml, hown, hts⟩ (s_X9_isTank l a2) (va_cwS 1 hts gX9_pour_X9_isTank rfl rfl rfl (by decide +kernel) ⟨Nat.le_of_ble_eq_true rfl, Nat.le_of_ble_eq_true rfl⟩) ⟨fun a U g mk q => q, fun U hU hW => ⟨rfl, trivial⟩⟩ rfl rfl hl.1 rfl (lv_room (Nat.le_of_ble_eq_true rfl)) dX9_pour_9 ⟨Nat.le_of_ble_eq_true rfl, Nat.le_of_ble_eq_true rfl⟩) (fun r_8 k_9 => ?_)
  rcases k_9 with ⟨rfl, o_10⟩ | ⟨rfl, a_11, b_12⟩
  · refine lv_if_ne (tgt := 17) hx hb dX9_pour_12 (by decide) (fun c_13 => absurd (by decide) c_13) (fun c_13 => ?_)
    refine lv_iconst (v := (-1)) hx hb dX9_pour_15 (by decide) ?_
    have hP : va_P D vwCl (mw h0 ad cs iv (uF (uF fv 4 (fv 4)) 9 (fv 9)) gv) s.heap := hP
    have hD : va_D A (mw h0 ad cs iv (uF (uF fv 4 (fv 4)) 9 (fv 9)) gv) := hD
    exact W.iret (v := (-1)) hx hb hr (fun t ht hW => ⟨⟨(-1), (-1), rfl, rfl, fv 4, fv 9, Or.inl ⟨Or.inl (Or.inr o_10), (if_pos (Or.inr o_10)).symm, rfl, rfl⟩, by rw [ht]; exact hP, va_K.moved hW.alike hK, hD⟩, hS.F ht⟩) hS.2.2 dX9_pour_16
  obtain ⟨j_14, hj_15, hj_16, rfl⟩ := is_nat (a := 0) (b := 9) a_11 b_12 (by omega)
  refine lv_if_ne (tgt := 17) hx hb dX9_pour_12 (by decide) (fun c_17 => ?_) (fun c_17 => absurd c_17 (by decide))
  refine lv_iload_n hx hb dX9_pour_17 rfl (lv_at hl 3 rfl) ?_
  refine lv_iconst (v := 1) hx hb dX9_pour_18 (by decide) ?_
  refine lv_icmp_lt (tgt := 53) hx hb dX9_pour_19 (by decide) (fun c_18 => ?_) (fun c_18 => ?_)
  · refine lv_bipush (v := (-2)) hx hb dX9_pour_53 (by decide) ?_
    have hP : va_P D vwCl (mw h0 ad cs iv (uF (uF fv 4 (fv 4)) 9 (fv 9)) gv) s.heap := hP
    have hD : va_D A (mw h0 ad cs iv (uF (uF fv 4 (fv 4)) 9 (fv 9)) gv) := hD
    exact W.iret (v := (-2)) hx hb hr (fun t ht hW => ⟨⟨(-2), (-2), rfl, rfl, fv 4, fv 9, Or.inl ⟨Or.inr (Or.inl (Or.inl c_18)), (if_neg (fun h9 => Or.elim h9 (lot_in hj_4 (by omega)) (fun h => Or.elim h a_11 b_12))).symm, rfl, rfl⟩, by rw [ht]; exact hP, va_K.moved hW.alike hK, hD⟩, hS.F ht⟩) hS.2.2 dX9_pour_55
  refine lv_iload_n hx hb dX9_pour_22 rfl (lv_at hl 3 rfl) ?_
  refine lv_aload_n hx hb dX9_pour_23 rfl (lv_at hl 0 rfl) ?_
  refine va_get (D := D) (ci := 9) (v := .ref (ad 4)) (C := RX9) (T := TX9) (N := 44) hx hb hts hin9 hown hK hP 0 rfl rfl 4 (by decide) (hts (.fieldLink RX9 23 "HoneyHouseModel" "lot" "[I") (List.mem_of_getElem? (i := 1) rfl)) (fun _ h9 => h9) rfl dX9_pour_24 ?_
  refine lv_bipush (v := 7) hx hb dX9_pour_27 (by decide) ?_
  refine lv_iload_n hx hb dX9_pour_29 rfl (lv_at hl 1 rfl) ?_
  refine lv_imul hx hb dX9_pour_30 ?_
  refine tp_i (y := nI (7 * j_3)) (pk_mul 7 j_3) ?_
  refine lv_iconst (v := 5) hx hb dX9_pour_31 (by decide) ?_
  refine lv_iadd hx hb dX9_pour_32 ?_
  refine tp_i (y := nI ((7 * j_3) + 5)) (nI_add (7 * j_3) 5) ?_
  refine va_iald (f := fv 4) (n := 280) hx hb hK hP 2 1 rfl rfl (vp_in_nI (n := (7 * j_3) + 5) (by omega) (by omega)) dX9_pour_33 ?_
  refine lv_topi (fun z_19 hz_20 => ?_)
  rw [nI_clamp (n := (7 * j_3) + 5) (by omega)] at hz_20
  obtain rfl : z_19 = fv 4 ((7 * j_3) + 5) := hz_20
  refine lv_icmp_gt (tgt := 53) hx hb dX9_pour_34 (by decide) (fun c_21 => ?_) (fun c_21 => ?_)
  · refine lv_bipush (v := (-2)) hx hb dX9_pour_53 (by decide) ?_
    have hP : va_P D vwCl (mw h0 ad cs iv (uF (uF fv 4 (fv 4)) 9 (fv 9)) gv) s.heap := hP
    have hD : va_D A (mw h0 ad cs iv (uF (uF fv 4 (fv 4)) 9 (fv 9)) gv) := hD
    exact W.iret (v := (-2)) hx hb hr (fun t ht hW => ⟨⟨(-2), (-2), rfl, rfl, fv 4, fv 9, Or.inl ⟨Or.inr (Or.inl (Or.inr (by rw [nI_clamp (n := j_3) (by omega)]; exact c_21))), (if_neg (fun h9 => Or.elim h9 (lot_in hj_4 (by omega)) (fun h => Or.elim h a_11 b_12))).symm, rfl, rfl⟩, by rw [ht]; exact hP, va_K.moved hW.alike hK, hD⟩, hS.F ht⟩) hS.2.2 dX9_pour_55
  refine lv_iload_n hx hb dX9_pour_37 rfl (lv_at hl 3 rfl) ?_
  refine lv_aload_n hx hb dX9_pour_38 rfl (lv_at hl 0 rfl) ?_
  refine va_get (D := D) (ci := 9) (v := .ref (ad 11)) (C := RX9) (T := TX9) (N := 44) hx hb hts hin9 hown hK hP 0 rfl rfl 11 (by decide) (hts (.fieldLink RX9 44 "HoneyHouseModel" "room" "[I") (List.mem_of_getElem? (i := 2) rfl)) (fun _ h9 => h9) rfl dX9_pour_39 ?_
  refine lv_iload_n hx hb dX9_pour_42 rfl (lv_at hl 2 rfl) ?_
  refine va_iald (f := fv 11) (n := 70) hx hb hK hP 9 8 rfl rfl (vp_in_nI (n := j_14) (by omega) (by omega)) dX9_pour_43 ?_
  refine lv_topi (fun z_22 hz_23 => ?_)
  rw [nI_clamp (n := j_14) (by omega)] at hz_23
  obtain rfl : z_22 = fv 11 j_14 := hz_23
  refine lv_aload_n hx hb dX9_pour_44 rfl (lv_at hl 0 rfl) ?_
  refine lv_iload_n hx hb dX9_pour_45 rfl (lv_at hl 2 rfl) ?_
  refine vp_callSi (W.runV (As := [.int (nI j_14)]) (rest := [.int (fv 11 j_14), .int a3]) ⟨hx, hb, hml, hown, hts⟩ (m_all l D h0 ad cs iv fv gv n3 j_14 h3 (by omega) (by omega)) (cwV 1 hts gX9_pour_X9_all rfl rfl rfl (by decide +kernel) ⟨Nat.le_of_ble_eq_true rfl, Nat.le_of_ble_eq_true rfl⟩) ⟨fun a U g mk q => ⟨q.1, q.2.1, va_K.moved (u := U) (U := U.calling g mk a) (Vm.Alike.refl U.vm) q.2.2⟩, va_recv hK hP (ci := 9) (q0 := 0) rfl rfl, fun U hU hW => ⟨rfl, by rw [hU]; exact hP, va_K.moved hW.alike hK⟩⟩ rfl rfl hl.1 rfl (lv_room (Nat.le_of_ble_eq_true rfl)) dX9_pour_46 ⟨Nat.le_of_ble_eq_true rfl, Nat.le_of_ble_eq_true rfl⟩) (fun r_24 k_25 => ?_)
  refine lv_isub hx hb dX9_pour_49 ?_
  refine lv_icmp_le (tgt := 56) hx hb dX9_pour_50 (by decide) (fun c_26 => ?_) (fun c_26 => ?_)
  · refine lv_aload_n hx hb dX9_pour_56 rfl (lv_at hl 0 rfl) ?_
    refine va_get (D := D) (ci := 9) (v := .ref (ad 9)) (C := RX9) (T := TX9) (N := 44) hx hb hts hin9 hown hK hP 0 rfl rfl 9 (by decide) (hts (.fieldLink RX9 38 "HoneyHouseModel" "grams" "[I") (List.mem_of_getElem? (i := 3) rfl)) (fun _ h9 => h9) rfl dX9_pour_57 ?_
    refine lv_bipush (v := 40) hx hb dX9_pour_60 (by decide) ?_
    refine lv_iload_n hx hb dX9_pour_62 rfl (lv_at hl 2 rfl) ?_
    refine lv_imul hx hb dX9_pour_63 ?_
    refine tp_i (y := nI (40 * j_14)) (pk_mul 40 j_14) ?_
    refine lv_iload_n hx hb dX9_pour_64 rfl (lv_at hl 1 rfl) ?_
    refine lv_iadd hx hb dX9_pour_65 ?_
    refine tp_i (y := nI ((40 * j_14) + j_3)) (nI_add (40 * j_14) j_3) ?_
    refine lv_dup2_11 hx hb dX9_pour_66 rfl rfl ?_
    refine va_iald (f := fv 9) (n := 2800) hx hb hK hP 7 6 rfl rfl (vp_in_nI (n := (40 * j_14) + j_3) (by omega) (by omega)) dX9_pour_67 ?_
    refine lv_topi (fun z_27 hz_28 => ?_)
    rw [nI_clamp (n := (40 * j_14) + j_3) (by omega)] at hz_28
    obtain rfl : z_27 = fv 9 ((40 * j_14) + j_3) := hz_28
    refine lv_iload_n hx hb dX9_pour_68 rfl (lv_at hl 3 rfl) ?_
    refine lv_iadd hx hb dX9_pour_69 ?_
    refine va_iast (f := fv 9) (n := 2800) hx hb hK hP hD hS 7 6 rfl rfl (vp_in_nI (n := (40 * j_14) + j_3) (by omega) (by omega)) dX9_pour_70 (fun H locs hP hD hS => ?_)
    have hP : va_P D vwCl (mw h0 ad cs iv (uF fv 9 (upd (fv 9) (nI ((40 * j_14) + j_3)).toNatClampNeg ((fv 9 ((40 * j_14) + j_3)) + a3))) gv) H := hP
    have hD : va_D A (mw h0 ad cs iv (uF fv 9 (upd (fv 9) (nI ((40 * j_14) + j_3)).toNatClampNeg ((fv 9 ((40 * j_14) + j_3)) + a3))) gv) := hD
    obtain ⟨f_29, hf_30⟩ : ∃ g9, g9 = upd (fv 9) (nI ((40 * j_14) + j_3)).toNatClampNeg ((fv 9 ((40 * j_14) + j_3)) + a3) := ⟨_, rfl⟩
    rw [← hf_30] at hP hD
    rw [nI_clamp (n := (40 * j_14) + j_3) (by omega)] at hf_30
    refine lv_aload_n hx hb dX9_pour_71 rfl (lv_at hl 0 rfl) ?_
    refine va_get (D := D) (ci := 9) (v := .ref (ad 4)) (C := RX9) (T := TX9) (N := 44) hx hb hts hin9 hown hK hP 0 rfl rfl 4 (by decide) (hts (.fieldLink RX9 23 "HoneyHouseModel" "lot" "[I") (List.mem_of_getElem? (i := 1) rfl)) (fun _ h9 => h9) rfl dX9_pour_72 ?_
    refine lv_bipush (v := 7) hx hb dX9_pour_75 (by decide) ?_
    refine lv_iload_n hx hb dX9_pour_77 rfl (lv_at hl 1 rfl) ?_
    refine lv_imul hx hb dX9_pour_78 ?_
    refine tp_i (y := nI (7 * j_3)) (pk_mul 7 j_3) ?_
    refine lv_iconst (v := 5) hx hb dX9_pour_79 (by decide) ?_
    refine lv_iadd hx hb dX9_pour_80 ?_
    refine tp_i (y := nI ((7 * j_3) + 5)) (nI_add (7 * j_3) 5) ?_
    refine lv_dup2_11 hx hb dX9_pour_81 rfl rfl ?_
    refine va_iald (f := fv 4) (n := 280) hx hb hK hP 2 1 rfl rfl (vp_in_nI (n := (7 * j_3) + 5) (by omega) (by omega)) dX9_pour_82 ?_
    refine lv_topi (fun z_31 hz_32 => ?_)
    rw [nI_clamp (n := (7 * j_3) + 5) (by omega)] at hz_32
    obtain rfl : z_31 = fv 4 ((7 * j_3) + 5) := hz_32
    refine lv_iload_n hx hb dX9_pour_83 rfl (lv_at hl 3 rfl) ?_
    refine lv_isub hx hb dX9_pour_84 ?_
    refine va_iast (f := fv 4) (n := 280) hx hb hK hP hD hS 2 1 rfl rfl (vp_in_nI (n := (7 * j_3) + 5) (by omega) (by omega)) dX9_pour_85 (fun H locs hP hD hS => ?_)
    have hP : va_P D vwCl (mw h0 ad cs iv (uF (uF fv 4 (upd (fv 4) (nI ((7 * j_3) + 5)).toNatClampNeg ((fv 4 ((7 * j_3) + 5)) - a3))) 9 f_29) gv) H := hP
    have hD : va_D A (mw h0 ad cs iv (uF (uF fv 4 (upd (fv 4) (nI ((7 * j_3) + 5)).toNatClampNeg ((fv 4 ((7 * j_3) + 5)) - a3))) 9 f_29) gv) := hD
    obtain ⟨f_33, hf_34⟩ : ∃ g9, g9 = upd (fv 4) (nI ((7 * j_3) + 5)).toNatClampNeg ((fv 4 ((7 * j_3) + 5)) - a3) := ⟨_, rfl⟩
    rw [← hf_34] at hP hD
    rw [nI_clamp (n := (7 * j_3) + 5) (by omega)] at hf_34
    refine lv_aload_n hx hb dX9_pour_86 rfl (lv_at hl 0 rfl) ?_
    refine va_get (D := D) (ci := 9) (v := .ref (ad 4)) (C := RX9) (T := TX9) (N := 44) hx hb hts hin9 hown hK hP 0 rfl rfl 4 (by decide) (hts (.fieldLink RX9 23 "HoneyHouseModel" "lot" "[I") (List.mem_of_getElem? (i := 1) rfl)) (fun _ h9 => h9) rfl dX9_pour_87 ?_
    refine lv_bipush (v := 7) hx hb dX9_pour_90 (by decide) ?_
    refine lv_iload_n hx hb dX9_pour_92 rfl (lv_at hl 1 rfl) ?_
    refine lv_imul hx hb dX9_pour_93 ?_
    refine tp_i (y := nI (7 * j_3)) (pk_mul 7 j_3) ?_
    refine lv_iconst (v := 5) hx hb dX9_pour_94 (by decide) ?_
    refine lv_iadd hx hb dX9_pour_95 ?_
    refine tp_i (y := nI ((7 * j_3) + 5)) (nI_add (7 * j_3) 5) ?_
    refine va_iald (f := f_33) (n := 280) hx hb hK hP 2 1 rfl rfl (vp_in_nI (n := (7 * j_3) + 5) (by omega) (by omega)) dX9_pour_96 ?_
    refine lv_topi (fun z_35 hz_36 => ?_)
    rw [nI_clamp (n := (7 * j_3) + 5) (by omega)] at hz_36
    obtain rfl : z_35 = f_33 ((7 * j_3) + 5) := hz_36
    have hP : va_P D vwCl (mw h0 ad cs iv (uF (uF fv 4 f_33) 9 f_29) gv) H := hP
    have hD : va_D A (mw h0 ad cs iv (uF (uF fv 4 f_33) 9 f_29) gv) := hD
    exact W.iret (v := f_33 ((7 * j_3) + 5)) hx hb hr (fun t ht hW => ⟨⟨f_33 ((7 * j_3) + 5), f_33 ((7 * j_3) + 5), rfl, rfl, f_33, f_29, Or.inr ⟨(fun h9 => Or.elim h9 (fun h9 => Or.elim h9 (lot_in hj_4 (by omega)) (fun h => Or.elim h a_11 b_12)) (fun h9 => Or.elim h9 (fun h9 => Or.elim h9 c_18 (fun h9 => c_21 (by rw [nI_clamp (n := j_3) (by omega)] at h9; exact h9))) (fun h9 => i_le_n c_26 (by rw [nI_clamp (n := j_14) (by omega), ← hM j_14 (by omega), ← k_25] at h9; exact h9)))), by rw [nI_clamp (n := j_3) (by omega), hf_34, upd_s], by rw [nI_clamp (n := j_3) (by omega)]; exact hf_34, by rw [nI_clamp (n := j_14) (by omega), nI_clamp (n := j_3) (by omega)]; exact hf_30⟩, by rw [ht]; exact hP, va_K.moved hW.alike hK, hD⟩, hS.F ht⟩) hS.2.2 dX9_pour_97
  refine lv_bipush (v := (-2)) hx hb dX9_pour_53 (by decide) ?_
  have hP : va_P D vwCl (mw h0 ad cs iv (uF (uF fv 4 (fv 4)) 9 (fv 9)) gv) s.heap := hP
  have hD : va_D A (mw h0 ad cs iv (uF (uF fv 4 (fv 4)) 9 (fv 9)) gv) := hD
  exact W.iret (v := (-2)) hx hb hr (fun t ht hW => ⟨⟨(-2), (-2), rfl, rfl, fv 4, fv 9, Or.inl ⟨Or.inr (Or.inr (by rw [nI_clamp (n := j_14) (by omega), ← hM j_14 (by omega), ← k_25]; exact i_nle c_26)), (if_neg (fun h9 => Or.elim h9 (lot_in hj_4 (by omega)) (fun h => Or.elim h a_11 b_12))).symm, rfl, rfl⟩, by rw [ht]; exact hP, va_K.moved hW.alike hK, hD⟩, hS.F ht⟩) hS.2.2 dX9_pour_55
theorem i_dec {x : Int32} (h : ¬ x ≤ 0) : (x + (-1)).toInt.toNat < x.toInt.toNat := by
  rw [i_le] at h
  have e0 : (0 : Int32).toInt = 0 := by decide
  have e1 : (-1 : Int32).toInt = -1 := by decide
  rw [e0] at h
  have hr := fb_rng0 x
  have e : (x + (-1)).toInt = x.toInt - 1 := by
    rw [Int32.toInt_add, e1]
    rw [Int.bmod_eq_of_le] <;> omega
  rw [e]; omega
theorem i_nz1 {g r : Int32} (h1 : ¬ g < 1) (h2 : ¬ r < g) : ¬ r = 0 := by
  intro e
  rw [e] at h2
  rw [i_lt] at h1 h2
  have e0 : (0 : Int32).toInt = 0 := by decide
  have e1 : (1 : Int32).toInt = 1 := by decide
  rw [e1] at h1; rw [e0] at h2
  omega
theorem i_nz2 {g r : Int32} (h1 : ¬ g < 1) (h2 : g ≤ r) : ¬ r = 0 := i_nz1 h1 (fun h => by rw [i_le] at h2; rw [i_lt] at h; omega)
set_option maxHeartbeats 4000000 in
set_option maxRecDepth 100000 in
theorem m_draw (l : Launch) (D : va_G) (h0 : Nat) (ad : Nat → Nat) (cs : Nat → ClassId) (iv : Nat → Int32) (fv : Nat → Nat → Int32) (gv : Nat → Int64) (n3 : Nat) (u9 S L : Nat) (a2 : Int32) (sz : Nat) (h3 : iv 3 = nI n3) (b3 : n3 ≤ 40) (bt : u9 < 10) (hm : mall (fv 9) u9 n3 = nI S) (hm4 : mall (fv 9) u9 40 = nI S) (hS0 : 0 < S ∧ S ≤ 1000000) (n0 : 0 < n3) (hl9 : lak a2 (drT (fv 9) u9) (fun i9 => fv 9 (40 * u9 + i9)) n3 = nI L) (hL : L ≤ 40) (hr9 : ∀ i9 : Nat, i9 < n3 → (rnd n3 (fun i9 => shD a2 (drT (fv 9) u9) (fv 9 (40 * u9 + i9))) (fun i9 => shR a2 (drT (fv 9) u9) (fv 9 (40 * u9 + i9))) L).1 i9 = drW (fv 9) u9 a2 i9) (hz9 : ∀ i9 : Nat, n3 ≤ i9 → i9 < 40 → drW (fv 9) u9 a2 i9 = 0) (hd9 : mall (drF (fv 9) u9 a2) u9 n3 = drA (fv 9) u9 a2) : Met l yX9_draw wsX9_draw ({ frames := 1, cells := 0, slots := 0, locals := 23 }) (va_Pc [.ref h0, .int (nI u9), .int a2] (fun U => U.heap.size = sz ∧ va_P D vwCl (mw h0 ad cs iv fv gv) U.heap ∧ va_K D vwCl (mT cs) U ∧ va_D (fun _ => True) (mw h0 ad cs iv fv gv))) (va_Qv (fun _ : Unit => True) (fun (_ : Unit) (t : State) => ∃ (f9 : Nat → Int32) (f10 : Nat → Int32) (f23 : Nat → Int32) (g24 : Nat → Int64), (f9 = drF (fv 9) u9 a2) ∧ (f10 = upd (fv 10) u9 (if drA (fv 9) u9 a2 = 0 then 0 else fv 10 u9)) ∧ (∀ i9 : Nat, i9 < n3 → f23 i9 = drW (fv 9) u9 a2 i9) ∧ va_P D vwCl (mw h0 ad cs iv (uF (uF (uF fv 9 f9) 10 f10) 23 f23) g24) t.heap ∧ va_K D vwCl (mT cs) t ∧ va_D (va_A (mw h0 ad cs iv fv gv) sz) (mw h0 ad cs iv (uF (uF (uF fv 9 f9) 10 f10) 23 f23) g24)) (va_A (mw h0 ad cs iv fv gv) sz)) 0 0 (va_A (mw h0 ad cs iv fv gv) sz) := by
  refine Met.ofW (cc := cX9_draw) (maxL := 9) (ret := none) (by decide) rfl ?_
  intro p e s m args below meth c s₁ B hml hv
  obtain ⟨rfl, hsz, hP, hK, hD0⟩ := hv
  have hx := B.exec
  have hb := B.bytes
  have hr := B.returns
  have hts := atoms_spec (ws := wsX9_draw) B.pre
  have hown : s.vm.findClass RX9 = some m.cls := findClass_of_methodNamed B.named
  have hlocks := B.notSynchronized
  subst hsz
  have hD := hD0.self (sz := s.heap.size)
  generalize hAe : va_A (mw h0 ad cs iv fv gv) s.heap.size = A at hD ⊢
  have hA : ∀ q : Nat, s.heap.size ≤ q → A q := fun q h => by rw [← hAe]; exact Or.inr h
  have hS : va_S A s.heap s.heap [] := va_S.rf
  have hin9 : ∀ w ∈ u_ws RX9 TX9 44, w ∈ wsX9_draw := (fun _ h9 => List.mem_cons_of_mem _ ((List.mem_append_right _ h9)))
  have hl := lv_entry ([.ref h0, .int (nI u9), .int a2]) (n := 9) (Nat.le_of_ble_eq_true rfl)
  rw [lg_entry_eq]
  generalize (lg_sl ([.ref h0, .int (nI u9), .int a2]) ++ List.replicate (9 - (lg_sl ([.ref h0, .int (nI u9), .int a2])).length) Slot.unset).toArray = ls at hl ⊢
  have hl : lv_has ls 9 [(0, .ref h0), (1, .int (nI u9)), (2, .int a2)] := hl
  refine lv_aload_n hx hb dX9_draw_0 rfl (lv_at hl 0 rfl) ?_
  refine lv_iload_n hx hb dX9_draw_1 rfl (lv_at hl 1 rfl) ?_
  refine vp_callSi (W.runV (As := [.int (nI u9)]) (rest := []) ⟨hx, hb, hml, hown, hts⟩ (m_all l D h0 ad cs iv fv gv n3 u9 h3 (by omega) (by omega)) (cwV 1 hts gX9_draw_X9_all rfl rfl rfl (by decide +kernel) ⟨Nat.le_of_ble_eq_true rfl, Nat.le_of_ble_eq_true rfl⟩) ⟨fun a U g mk q => ⟨q.1, q.2.1, va_K.moved (u := U) (U := U.calling g mk a) (Vm.Alike.refl U.vm) q.2.2⟩, va_recv hK hP (ci := 9) (q0 := 0) rfl rfl, fun U hU hW => ⟨rfl, by rw [hU]; exact hP, va_K.moved hW.alike hK⟩⟩ rfl rfl hl.1 rfl (lv_room (Nat.le_of_ble_eq_true rfl)) dX9_draw_2 ⟨Nat.le_of_ble_eq_true rfl, Nat.le_of_ble_eq_true rfl⟩) (fun r_1 k_2 => ?_)
  obtain rfl : r_1 = mall (fv 9) u9 n3 := k_2
  refine lv_i2l hx hb dX9_draw_5 rfl ?_
  refine lv_topl (fun z_3 hz_4 => ?_)
  obtain rfl : z_3 = drT (fv 9) u9 := hz_4.trans (by rw [drT, hm, hm4])
  have hT0 : ¬ drT (fv 9) u9 = 0 := by rw [drT, hm4]; exact i_ne64 (fun h9 => absurd (n_eq (a := S) (b := 0) (by omega) (by omega) h9) (by omega))
  refine lv_lstore_n (lv' := [(3, .long (drT (fv 9) u9)), (0, .ref h0), (1, .int (nI u9)), (2, .int a2)]) hx hb dX9_draw_6 rfl hl (by decide) rfl (fun ls hl => ?_)
  refine lv_iload_n hx hb dX9_draw_7 rfl (lv_at hl 3 rfl) ?_
  refine lv_istore (lv' := [(5, .int a2), (3, .long (drT (fv 9) u9)), (0, .ref h0), (1, .int (nI u9)), (2, .int a2)]) hx hb dX9_draw_8 hl (by decide) rfl (fun ls hl => ?_)
  refine lv_iconst (v := 0) hx hb dX9_draw_10 (by decide) ?_
  refine lv_istore (lv' := [(6, .int 0), (5, .int a2), (3, .long (drT (fv 9) u9)), (0, .ref h0), (1, .int (nI u9)), (2, .int a2)]) hx hb dX9_draw_11 hl (by decide) rfl (fun ls hl => ?_)
  refine lp_V (nL := 9) (σ := Nat × Int32 × (Nat → Int32) × (Nat → Int64)) (lv := fun x9 => [(6, .int (nI x9.1)), (5, .int x9.2.1), (3, .long (drT (fv 9) u9)), (2, .int a2), (1, .int (nI u9)), (0, .ref h0)]) (μ := fun x9 => n3 - x9.1) (J := fun x9 ws9 => ws9 = (mw h0 ad cs iv (uF fv 23 x9.2.2.1) x9.2.2.2) ∧ (x9.1 ≤ n3) ∧ (x9.2.1 = lak a2 (drT (fv 9) u9) (fun i9 => fv 9 (40 * u9 + i9)) x9.1) ∧ (∀ i9 : Nat, i9 < x9.1 → x9.2.2.1 i9 = shD a2 (drT (fv 9) u9) (fv 9 (40 * u9 + i9)) ∧ x9.2.2.2 i9 = shR a2 (drT (fv 9) u9) (fv 9 (40 * u9 + i9)))) (fun x9 ws9 H locs ls hj hP hD hS hl ih_5 => ?_) (0, a2, fv 23, gv) (mw h0 ad cs iv fv gv) _ _ ls ⟨rfl, (show 0 ≤ n3 from by omega), (show a2 = lak a2 (drT (fv 9) u9) (fun i9 => fv 9 (40 * u9 + i9)) 0 from rfl), (show ∀ i9 : Nat, i9 < 0 → (fv 23) i9 = shD a2 (drT (fv 9) u9) (fv 9 (40 * u9 + i9)) ∧ gv i9 = shR a2 (drT (fv 9) u9) (fv 9 (40 * u9 + i9)) from fun i9 h9 => absurd h9 (by omega))⟩ hP hD hS (lv_sub hl [0, 1, 2, 5, 4, 3] rfl)
  obtain ⟨i_6, x_7, f23_8, g24_9⟩ := x9
  replace hj : ws9 = (mw h0 ad cs iv (uF fv 23 f23_8) g24_9) ∧ (i_6 ≤ n3) ∧ (x_7 = lak a2 (drT (fv 9) u9) (fun i9 => fv 9 (40 * u9 + i9)) i_6) ∧ (∀ i9 : Nat, i9 < i_6 → f23_8 i9 = shD a2 (drT (fv 9) u9) (fv 9 (40 * u9 + i9)) ∧ g24_9 i9 = shR a2 (drT (fv 9) u9) (fv 9 (40 * u9 + i9))) := hj
  obtain ⟨rfl, hi_10, hx_11, hd_12⟩ := hj
  have hl : lv_has ls 9 [(6, .int (nI i_6)), (5, .int x_7), (3, .long (drT (fv 9) u9)), (2, .int a2), (1, .int (nI u9)), (0, .ref h0)] := hl
  refine lv_iload hx hb dX9_draw_13 (lv_at hl 0 rfl) ?_
  refine lv_aload_n hx hb dX9_draw_15 rfl (lv_at hl 5 rfl) ?_
  refine va_get (D := D) (ci := 9) (v := .int (iv 3)) (C := RX9) (T := TX9) (N := 44) hx hb hts hin9 hown hK hP 0 rfl rfl 3 (by decide) (hts (.fieldLink RX9 20 "HoneyHouseModel" "lots" "I") (List.mem_of_getElem? (i := 1) rfl)) (fun _ h9 => h9) rfl dX9_draw_16 ?_
  refine tp_i (y := nI n3) (h3) ?_
  refine lv_icmp_ge (tgt := 81) hx hb dX9_draw_19 (by decide) (fun c_13 => ?_) (fun c_13 => ?_)
  · have d_14 := n_le (a := n3) (b := i_6) (by omega) (by omega) c_13
    refine lp_V (nL := 9) (σ := Int32 × (Nat → Int32) × (Nat → Int64) × Nat) (lv := fun x9 => [(5, .int x9.1), (3, .long (drT (fv 9) u9)), (2, .int a2), (1, .int (nI u9)), (0, .ref h0)]) (μ := fun x9 => L - x9.2.2.2) (J := fun x9 ws9 => ws9 = (mw h0 ad cs iv (uF fv 23 x9.2.1) x9.2.2.1) ∧ (x9.2.2.2 ≤ L) ∧ (x9.1 = nI (L - x9.2.2.2)) ∧ (∀ i9 : Nat, i9 < n3 → x9.2.1 i9 = (rnd n3 (fun i9 => shD a2 (drT (fv 9) u9) (fv 9 (40 * u9 + i9))) (fun i9 => shR a2 (drT (fv 9) u9) (fv 9 (40 * u9 + i9))) x9.2.2.2).1 i9 ∧ x9.2.2.1 i9 = (rnd n3 (fun i9 => shD a2 (drT (fv 9) u9) (fv 9 (40 * u9 + i9))) (fun i9 => shR a2 (drT (fv 9) u9) (fv 9 (40 * u9 + i9))) x9.2.2.2).2 i9)) (fun x9 ws9 H locs ls hj hP hD hS hl ih_15 => ?_) (x_7, f23_8, g24_9, 0) (mw h0 ad cs iv (uF fv 23 f23_8) g24_9) _ _ ls ⟨rfl, (show 0 ≤ L from by omega), (show x_7 = nI (L - 0) from by rw [hx_11, show i_6 = n3 by omega, Nat.sub_zero]; exact hl9), (show ∀ i9 : Nat, i9 < n3 → f23_8 i9 = (rnd n3 (fun i9 => shD a2 (drT (fv 9) u9) (fv 9 (40 * u9 + i9))) (fun i9 => shR a2 (drT (fv 9) u9) (fv 9 (40 * u9 + i9))) 0).1 i9 ∧ g24_9 i9 = (rnd n3 (fun i9 => shD a2 (drT (fv 9) u9) (fv 9 (40 * u9 + i9))) (fun i9 => shR a2 (drT (fv 9) u9) (fv 9 (40 * u9 + i9))) 0).2 i9 from fun i9 h9 => hd_12 i9 (by omega))⟩ hP hD hS (lv_sub hl [1, 2, 3, 4, 5] rfl)
    obtain ⟨x_16, f23_17, g24_18, k_19⟩ := x9
    replace hj : ws9 = (mw h0 ad cs iv (uF fv 23 f23_17) g24_18) ∧ (k_19 ≤ L) ∧ (x_16 = nI (L - k_19)) ∧ (∀ i9 : Nat, i9 < n3 → f23_17 i9 = (rnd n3 (fun i9 => shD a2 (drT (fv 9) u9) (fv 9 (40 * u9 + i9))) (fun i9 => shR a2 (drT (fv 9) u9) (fv 9 (40 * u9 + i9))) k_19).1 i9 ∧ g24_18 i9 = (rnd n3 (fun i9 => shD a2 (drT (fv 9) u9) (fv 9 (40 * u9 + i9))) (fun i9 => shR a2 (drT (fv 9) u9) (fv 9 (40 * u9 + i9))) k_19).2 i9) := hj
    obtain ⟨rfl, hk_20, hx_21, hr_22⟩ := hj
    have hl : lv_has ls 9 [(5, .int x_16), (3, .long (drT (fv 9) u9)), (2, .int a2), (1, .int (nI u9)), (0, .ref h0)] := hl
    refine lv_iload hx hb dX9_draw_81 (lv_at hl 0 rfl) ?_
    refine lv_if_le (tgt := 161) hx hb dX9_draw_83 (by decide) (fun c_23 => ?_) (fun c_23 => ?_)
    · refine lv_iconst (v := 0) hx hb dX9_draw_161 (by decide) ?_
      refine lv_istore (lv' := [(6, .int 0), (5, .int x_16), (3, .long (drT (fv 9) u9)), (2, .int a2), (1, .int (nI u9)), (0, .ref h0)]) hx hb dX9_draw_162 hl (by decide) rfl (fun ls hl => ?_)
      have kL_24 : k_19 = L := by have h9 := (nI_leI (a := L - k_19) (b := 0) (by omega) (by omega)).mp (by rw [← hx_21]; exact c_23); omega
      have hw_25 : ∀ i9 : Nat, i9 < n3 → f23_17 i9 = drW (fv 9) u9 a2 i9 := fun i9 h9 => by rw [(hr_22 i9 h9).1, kL_24]; exact hr9 i9 h9
      refine lp_V (nL := 9) (σ := Nat × (Nat → Int32)) (lv := fun x9 => [(6, .int (nI x9.1)), (3, .long (drT (fv 9) u9)), (2, .int a2), (1, .int (nI u9)), (0, .ref h0)]) (μ := fun x9 => n3 - x9.1) (J := fun x9 ws9 => ws9 = (mw h0 ad cs iv (uF (uF fv 9 x9.2) 23 f23_17) g24_18) ∧ (x9.1 ≤ n3) ∧ (∀ i9 : Nat, i9 < x9.1 → x9.2 (40 * u9 + i9) = fv 9 (40 * u9 + i9) - f23_17 i9) ∧ (∀ r9 i9 : Nat, i9 < 40 → r9 ≠ u9 ∨ x9.1 ≤ i9 → x9.2 (40 * r9 + i9) = fv 9 (40 * r9 + i9))) (fun x9 ws9 H locs ls hj hP hD hS hl ih_26 => ?_) (0, fv 9) (mw h0 ad cs iv (uF fv 23 f23_17) g24_18) _ _ ls ⟨rfl, (show 0 ≤ n3 from by omega), (show ∀ i9 : Nat, i9 < 0 → (fv 9) (40 * u9 + i9) = fv 9 (40 * u9 + i9) - f23_17 i9 from fun i9 h9 => absurd h9 (by omega)), (show ∀ r9 i9 : Nat, i9 < 40 → r9 ≠ u9 ∨ 0 ≤ i9 → (fv 9) (40 * r9 + i9) = fv 9 (40 * r9 + i9) from fun _ _ _ _ => rfl)⟩ hP hD hS (lv_sub hl [0, 2, 3, 4, 5] rfl)
      obtain ⟨i_27, f9_28⟩ := x9
      replace hj : ws9 = (mw h0 ad cs iv (uF (uF fv 9 f9_28) 23 f23_17) g24_18) ∧ (i_27 ≤ n3) ∧ (∀ i9 : Nat, i9 < i_27 → f9_28 (40 * u9 + i9) = fv 9 (40 * u9 + i9) - f23_17 i9) ∧ (∀ r9 i9 : Nat, i9 < 40 → r9 ≠ u9 ∨ i_27 ≤ i9 → f9_28 (40 * r9 + i9) = fv 9 (40 * r9 + i9)) := hj
      obtain ⟨rfl, hi_29, h1_30, h2_31⟩ := hj
      have hl : lv_has ls 9 [(6, .int (nI i_27)), (3, .long (drT (fv 9) u9)), (2, .int a2), (1, .int (nI u9)), (0, .ref h0)] := hl
      refine lv_iload hx hb dX9_draw_164 (lv_at hl 0 rfl) ?_
      refine lv_aload_n hx hb dX9_draw_166 rfl (lv_at hl 4 rfl) ?_
      refine va_get (D := D) (ci := 9) (v := .int (iv 3)) (C := RX9) (T := TX9) (N := 44) hx hb hts hin9 hown hK hP 0 rfl rfl 3 (by decide) (hts (.fieldLink RX9 20 "HoneyHouseModel" "lots" "I") (List.mem_of_getElem? (i := 1) rfl)) (fun _ h9 => h9) rfl dX9_draw_167 ?_
      refine tp_i (y := nI n3) (h3) ?_
      refine lv_icmp_ge (tgt := 201) hx hb dX9_draw_170 (by decide) (fun c_32 => ?_) (fun c_32 => ?_)
      · have d_33 := n_le (a := n3) (b := i_27) (by omega) (by omega) c_32
        have e9_34 : f9_28 = drF (fv 9) u9 a2 := dr_row (n := n3) (fun i9 h9 => h1_30 i9 (by omega)) (fun r9 i9 h8 h9 => h2_31 r9 i9 h8 (by omega)) hw_25 hz9
        refine lv_aload_n hx hb dX9_draw_201 rfl (lv_at hl 4 rfl) ?_
        refine lv_iload_n hx hb dX9_draw_202 rfl (lv_at hl 3 rfl) ?_
        refine vp_callSi (W.runV (As := [.int (nI u9)]) (rest := []) ⟨hx, hb, hml, hown, hts⟩ (m_all l D h0 ad cs iv (uF (uF fv 9 f9_28) 23 f23_17) g24_18 n3 u9 h3 (by omega) (by omega)) (cwV 1 hts gX9_draw_X9_all rfl rfl rfl (by decide +kernel) ⟨Nat.le_of_ble_eq_true rfl, Nat.le_of_ble_eq_true rfl⟩) ⟨fun a U g mk q => ⟨q.1, q.2.1, va_K.moved (u := U) (U := U.calling g mk a) (Vm.Alike.refl U.vm) q.2.2⟩, va_recv hK hP (ci := 9) (q0 := 0) rfl rfl, fun U hU hW => ⟨rfl, by rw [hU]; exact hP, va_K.moved hW.alike hK⟩⟩ rfl rfl hl.1 rfl (lv_room (Nat.le_of_ble_eq_true rfl)) dX9_draw_203 ⟨Nat.le_of_ble_eq_true rfl, Nat.le_of_ble_eq_true rfl⟩) (fun r_35 k_36 => ?_)
        have k_37 : r_35 = mall f9_28 u9 n3 := k_36
        refine lv_if_ne (tgt := 216) hx hb dX9_draw_206 (by decide) (fun c_38 => ?_) (fun c_38 => ?_)
        · have hP : va_P D vwCl (mw h0 ad cs iv (uF (uF (uF fv 9 f9_28) 10 (fv 10)) 23 f23_17) g24_18) H := hP
          have hD : va_D A (mw h0 ad cs iv (uF (uF (uF fv 9 f9_28) 10 (fv 10)) 23 f23_17) g24_18) := hD
          exact W.vret hx hb hr (fun t ht hW => ⟨⟨(), rfl, trivial, f9_28, fv 10, f23_17, g24_18, e9_34, by rw [if_neg (show ¬ drA (fv 9) u9 a2 = 0 by rw [← hd9, ← e9_34, ← k_37]; exact c_38), upd_self], hw_25, by rw [ht]; exact hP, va_K.moved hW.alike hK, hD⟩, hS.F ht⟩) hS.2.2 dX9_draw_216
        refine lv_aload_n hx hb dX9_draw_209 rfl (lv_at hl 4 rfl) ?_
        refine va_get (D := D) (ci := 9) (v := .ref (ad 10)) (C := RX9) (T := TX9) (N := 44) hx hb hts hin9 hown hK hP 0 rfl rfl 10 (by decide) (hts (.fieldLink RX9 41 "HoneyHouseModel" "heat" "[I") (List.mem_of_getElem? (i := 6) rfl)) (fun _ h9 => h9) rfl dX9_draw_210 ?_
        refine lv_iload_n hx hb dX9_draw_213 rfl (lv_at hl 3 rfl) ?_
        refine lv_iconst (v := 0) hx hb dX9_draw_214 (by decide) ?_
        refine va_iast (f := fv 10) (n := 70) hx hb hK hP hD hS 8 7 rfl rfl (vp_in_nI (n := u9) (by omega) (by omega)) dX9_draw_215 (fun H locs hP hD hS => ?_)
        have hP : va_P D vwCl (mw h0 ad cs iv (uF (uF (uF fv 9 f9_28) 10 (upd (fv 10) (nI u9).toNatClampNeg 0)) 23 f23_17) g24_18) H := hP
        have hD : va_D A (mw h0 ad cs iv (uF (uF (uF fv 9 f9_28) 10 (upd (fv 10) (nI u9).toNatClampNeg 0)) 23 f23_17) g24_18) := hD
        obtain ⟨f_39, hf_40⟩ : ∃ g9, g9 = upd (fv 10) (nI u9).toNatClampNeg 0 := ⟨_, rfl⟩
        rw [← hf_40] at hP hD
        rw [nI_clamp (n := u9) (by omega)] at hf_40
        have hP : va_P D vwCl (mw h0 ad cs iv (uF (uF (uF fv 9 f9_28) 10 f_39) 23 f23_17) g24_18) H := hP
        have hD : va_D A (mw h0 ad cs iv (uF (uF (uF fv 9 f9_28) 10 f_39) 23 f23_17) g24_18) := hD
        exact W.vret hx hb hr (fun t ht hW => ⟨⟨(), rfl, trivial, f9_28, f_39, f23_17, g24_18, e9_34, by rw [if_pos (show drA (fv 9) u9 a2 = 0 by rw [← hd9, ← e9_34, ← k_37]; exact c_38)]; exact hf_40, hw_25, by rw [ht]; exact hP, va_K.moved hW.alike hK, hD⟩, hS.F ht⟩) hS.2.2 dX9_draw_216
      have d_41 := n_nle (a := n3) (b := i_27) (by omega) (by omega) c_32
      refine lv_aload_n hx hb dX9_draw_173 rfl (lv_at hl 4 rfl) ?_
      refine va_get (D := D) (ci := 9) (v := .ref (ad 9)) (C := RX9) (T := TX9) (N := 44) hx hb hts hin9 hown hK hP 0 rfl rfl 9 (by decide) (hts (.fieldLink RX9 38 "HoneyHouseModel" "grams" "[I") (List.mem_of_getElem? (i := 2) rfl)) (fun _ h9 => h9) rfl dX9_draw_174 ?_
      refine lv_bipush (v := 40) hx hb dX9_draw_177 (by decide) ?_
      refine lv_iload_n hx hb dX9_draw_179 rfl (lv_at hl 3 rfl) ?_
      refine lv_imul hx hb dX9_draw_180 ?_
      refine tp_i (y := nI (40 * u9)) (pk_mul 40 u9) ?_
      refine lv_iload hx hb dX9_draw_181 (lv_at hl 0 rfl) ?_
      refine lv_iadd hx hb dX9_draw_183 ?_
      refine tp_i (y := nI ((40 * u9) + i_27)) (nI_add (40 * u9) i_27) ?_
      refine lv_dup2_11 hx hb dX9_draw_184 rfl rfl ?_
      refine va_iald (f := f9_28) (n := 2800) hx hb hK hP 7 6 rfl rfl (vp_in_nI (n := (40 * u9) + i_27) (by omega) (by omega)) dX9_draw_185 ?_
      refine lv_topi (fun z_42 hz_43 => ?_)
      rw [nI_clamp (n := (40 * u9) + i_27) (by omega)] at hz_43
      obtain rfl : z_42 = f9_28 ((40 * u9) + i_27) := hz_43
      refine lv_aload_n hx hb dX9_draw_186 rfl (lv_at hl 4 rfl) ?_
      refine va_get (D := D) (ci := 9) (v := .ref (ad 23)) (C := RX9) (T := TX9) (N := 44) hx hb hts hin9 hown hK hP 0 rfl rfl 23 (by decide) (hts (.fieldLink RX9 80 "HoneyHouseModel" "drawn" "[I") (List.mem_of_getElem? (i := 3) rfl)) (fun _ h9 => h9) rfl dX9_draw_187 ?_
      refine lv_iload hx hb dX9_draw_190 (lv_at hl 0 rfl) ?_
      refine va_iald (f := f23_17) (n := 40) hx hb hK hP 17 16 rfl rfl (vp_in_nI (n := i_27) (by omega) (by omega)) dX9_draw_192 ?_
      refine lv_topi (fun z_44 hz_45 => ?_)
      rw [nI_clamp (n := i_27) (by omega)] at hz_45
      obtain rfl : z_44 = f23_17 i_27 := hz_45
      refine lv_isub hx hb dX9_draw_193 ?_
      refine va_iast (f := f9_28) (n := 2800) hx hb hK hP hD hS 7 6 rfl rfl (vp_in_nI (n := (40 * u9) + i_27) (by omega) (by omega)) dX9_draw_194 (fun H locs hP hD hS => ?_)
      have hP : va_P D vwCl (mw h0 ad cs iv (uF (uF fv 9 (upd f9_28 (nI ((40 * u9) + i_27)).toNatClampNeg ((f9_28 ((40 * u9) + i_27)) - (f23_17 i_27)))) 23 f23_17) g24_18) H := hP
      have hD : va_D A (mw h0 ad cs iv (uF (uF fv 9 (upd f9_28 (nI ((40 * u9) + i_27)).toNatClampNeg ((f9_28 ((40 * u9) + i_27)) - (f23_17 i_27)))) 23 f23_17) g24_18) := hD
      obtain ⟨f_46, hf_47⟩ : ∃ g9, g9 = upd f9_28 (nI ((40 * u9) + i_27)).toNatClampNeg ((f9_28 ((40 * u9) + i_27)) - (f23_17 i_27)) := ⟨_, rfl⟩
      rw [← hf_47] at hP hD
      rw [nI_clamp (n := (40 * u9) + i_27) (by omega)] at hf_47
      refine lv_iinc (v := nI (i_27 + 1)) (lv' := [(6, .int (nI (i_27 + 1))), (3, .long (drT (fv 9) u9)), (2, .int a2), (1, .int (nI u9)), (0, .ref h0)]) hx hb dX9_draw_195 hl (k := 0) rfl (nI_add i_27 1) (by decide) rfl (fun ls hl => ?_)
      refine lv_goto (tgt := 164) hx hb dX9_draw_198 (by decide) ?_
      exact ih_26 (i_27 + 1, f_46) (mw h0 ad cs iv (uF (uF fv 9 f_46) 23 f23_17) g24_18) _ _ ls (by show n3 - (i_27 + 1) < n3 - i_27; omega) ⟨rfl, (show (i_27 + 1) ≤ n3 from by omega), (show ∀ i9 : Nat, i9 < (i_27 + 1) → f_46 (40 * u9 + i9) = fv 9 (40 * u9 + i9) - f23_17 i9 from fun i9 h9 => by rw [hf_47]; rcases Nat.decEq i9 i_27 with q | q; (rw [upd_n (by omega)]; exact h1_30 i9 (by omega)); (rw [q, upd_s, h2_31 u9 i_27 (by omega) (Or.inr (by omega))])), (show ∀ r9 i9 : Nat, i9 < 40 → r9 ≠ u9 ∨ (i_27 + 1) ≤ i9 → f_46 (40 * r9 + i9) = fv 9 (40 * r9 + i9) from fun r9 i9 h8 h9 => by rw [hf_47, upd_n (by omega)]; exact h2_31 r9 i9 h8 (by omega))⟩ hP hD hS (lv_sub hl [0, 1, 2, 3, 4] rfl)
    have hkL : k_19 < L := Nat.lt_of_not_le (fun h9 => c_23 (by rw [hx_21, show L - k_19 = 0 by omega]; decide))
    refine lv_iconst (v := 0) hx hb dX9_draw_86 (by decide) ?_
    refine lv_istore (lv' := [(6, .int 0), (5, .int x_16), (3, .long (drT (fv 9) u9)), (2, .int a2), (1, .int (nI u9)), (0, .ref h0)]) hx hb dX9_draw_87 hl (by decide) rfl (fun ls hl => ?_)
    refine lv_iconst (v := 1) hx hb dX9_draw_89 (by decide) ?_
    refine lv_istore (lv' := [(7, .int 1), (6, .int 0), (5, .int x_16), (3, .long (drT (fv 9) u9)), (2, .int a2), (1, .int (nI u9)), (0, .ref h0)]) hx hb dX9_draw_90 hl (by decide) rfl (fun ls hl => ?_)
    refine lp_V (nL := 9) (σ := Nat × Nat) (lv := fun x9 => [(7, .int (nI x9.2)), (6, .int (nI x9.1)), (5, .int x_16), (3, .long (drT (fv 9) u9)), (2, .int a2), (1, .int (nI u9)), (0, .ref h0)]) (μ := fun x9 => n3 - x9.2) (J := fun x9 ws9 => ws9 = (mw h0 ad cs iv (uF fv 23 f23_17) g24_18) ∧ (x9.1 < n3) ∧ (x9.2 ≤ n3) ∧ (1 ≤ x9.2) ∧ (x9.1 = bst g24_18 x9.2)) (fun x9 ws9 H locs ls hj hP hD hS hl ih_48 => ?_) (0, 1) (mw h0 ad cs iv (uF fv 23 f23_17) g24_18) _ _ ls ⟨rfl, (show 0 < n3 from by omega), (show 1 ≤ n3 from by omega), (show 1 ≤ 1 from by omega), (show 0 = bst g24_18 1 from bst_1 _)⟩ hP hD hS (lv_sub hl [0, 1, 2, 3, 4, 5, 6] rfl)
    obtain ⟨b_49, k2_50⟩ := x9
    replace hj : ws9 = (mw h0 ad cs iv (uF fv 23 f23_17) g24_18) ∧ (b_49 < n3) ∧ (k2_50 ≤ n3) ∧ (1 ≤ k2_50) ∧ (b_49 = bst g24_18 k2_50) := hj
    obtain ⟨rfl, hb0_51, hk_52, hk1_53, hb_54⟩ := hj
    have hl : lv_has ls 9 [(7, .int (nI k2_50)), (6, .int (nI b_49)), (5, .int x_16), (3, .long (drT (fv 9) u9)), (2, .int a2), (1, .int (nI u9)), (0, .ref h0)] := hl
    refine lv_iload hx hb dX9_draw_92 (lv_at hl 0 rfl) ?_
    refine lv_aload_n hx hb dX9_draw_94 rfl (lv_at hl 6 rfl) ?_
    refine va_get (D := D) (ci := 9) (v := .int (iv 3)) (C := RX9) (T := TX9) (N := 44) hx hb hts hin9 hown hK hP 0 rfl rfl 3 (by decide) (hts (.fieldLink RX9 20 "HoneyHouseModel" "lots" "I") (List.mem_of_getElem? (i := 1) rfl)) (fun _ h9 => h9) rfl dX9_draw_95 ?_
    refine tp_i (y := nI n3) (h3) ?_
    refine lv_icmp_ge (tgt := 134) hx hb dX9_draw_98 (by decide) (fun c_55 => ?_) (fun c_55 => ?_)
    · have d_56 := n_le (a := n3) (b := k2_50) (by omega) (by omega) c_55
      have hb_57 : b_49 = bst g24_18 n3 := by rw [hb_54, show k2_50 = n3 by omega]
      refine lv_aload_n hx hb dX9_draw_134 rfl (lv_at hl 6 rfl) ?_
      refine va_get (D := D) (ci := 9) (v := .ref (ad 23)) (C := RX9) (T := TX9) (N := 44) hx hb hts hin9 hown hK hP 0 rfl rfl 23 (by decide) (hts (.fieldLink RX9 80 "HoneyHouseModel" "drawn" "[I") (List.mem_of_getElem? (i := 3) rfl)) (fun _ h9 => h9) rfl dX9_draw_135 ?_
      refine lv_iload hx hb dX9_draw_138 (lv_at hl 1 rfl) ?_
      refine lv_dup2_11 hx hb dX9_draw_140 rfl rfl ?_
      refine va_iald (f := f23_17) (n := 40) hx hb hK hP 17 16 rfl rfl (vp_in_nI (n := b_49) (by omega) (by omega)) dX9_draw_141 ?_
      refine lv_topi (fun z_58 hz_59 => ?_)
      rw [nI_clamp (n := b_49) (by omega)] at hz_59
      obtain rfl : z_58 = f23_17 b_49 := hz_59
      refine lv_iconst (v := 1) hx hb dX9_draw_142 (by decide) ?_
      refine lv_iadd hx hb dX9_draw_143 ?_
      refine va_iast (f := f23_17) (n := 40) hx hb hK hP hD hS 17 16 rfl rfl (vp_in_nI (n := b_49) (by omega) (by omega)) dX9_draw_144 (fun H locs hP hD hS => ?_)
      have hP : va_P D vwCl (mw h0 ad cs iv (uF fv 23 (upd f23_17 (nI b_49).toNatClampNeg ((f23_17 b_49) + 1))) g24_18) H := hP
      have hD : va_D A (mw h0 ad cs iv (uF fv 23 (upd f23_17 (nI b_49).toNatClampNeg ((f23_17 b_49) + 1))) g24_18) := hD
      obtain ⟨f_60, hf_61⟩ : ∃ g9, g9 = upd f23_17 (nI b_49).toNatClampNeg ((f23_17 b_49) + 1) := ⟨_, rfl⟩
      rw [← hf_61] at hP hD
      rw [nI_clamp (n := b_49) (by omega)] at hf_61
      refine lv_aload_n hx hb dX9_draw_145 rfl (lv_at hl 6 rfl) ?_
      refine va_get (D := D) (ci := 9) (v := .ref (ad 24)) (C := RX9) (T := TX9) (N := 44) hx hb hts hin9 hown hK hP 0 rfl rfl 24 (by decide) (hts (.fieldLink RX9 83 "HoneyHouseModel" "rest" "[J") (List.mem_of_getElem? (i := 4) rfl)) (fun _ h9 => h9) rfl dX9_draw_146 ?_
      refine lv_iload hx hb dX9_draw_149 (lv_at hl 1 rfl) ?_
      refine lv_ldc2 hx hb hown (hts (.constantLong RX9 173 (-1)) (List.mem_of_getElem? (i := 5) rfl)) dX9_draw_151 ?_
      refine va_last (f := g24_18) (n := 40) hx hb hK hP hD hS 18 17 rfl rfl (vp_in_nI (n := b_49) (by omega) (by omega)) dX9_draw_154 (fun H locs hP hD hS => ?_)
      have hP : va_P D vwCl (mw h0 ad cs iv (uF fv 23 f_60) (vp_updL g24_18 (nI b_49).toNatClampNeg (-1))) H := hP
      have hD : va_D A (mw h0 ad cs iv (uF fv 23 f_60) (vp_updL g24_18 (nI b_49).toNatClampNeg (-1))) := hD
      obtain ⟨f_62, hf_63⟩ : ∃ g9, g9 = vp_updL g24_18 (nI b_49).toNatClampNeg (-1) := ⟨_, rfl⟩
      rw [← hf_63] at hP hD
      rw [nI_clamp (n := b_49) (by omega)] at hf_63
      refine lv_iinc (v := x_16 + (-1)) (lv' := [(5, .int (x_16 + (-1))), (7, .int (nI k2_50)), (6, .int (nI b_49)), (3, .long (drT (fv 9) u9)), (2, .int a2), (1, .int (nI u9)), (0, .ref h0)]) hx hb dX9_draw_155 hl (k := 2) rfl rfl (by decide) rfl (fun ls hl => ?_)
      refine lv_goto (tgt := 81) hx hb dX9_draw_158 (by decide) ?_
      exact ih_15 (x_16 + (-1), f_60, f_62, k_19 + 1) (mw h0 ad cs iv (uF fv 23 f_60) f_62) _ _ ls (by show L - (k_19 + 1) < L - k_19; omega) ⟨rfl, (show (k_19 + 1) ≤ L from by omega), (show (x_16 + (-1)) = nI (L - (k_19 + 1)) from by rw [hx_21, sb_m1 (by omega), Nat.sub_sub]), (show ∀ i9 : Nat, i9 < n3 → f_60 i9 = (rnd n3 (fun i9 => shD a2 (drT (fv 9) u9) (fv 9 (40 * u9 + i9))) (fun i9 => shR a2 (drT (fv 9) u9) (fv 9 (40 * u9 + i9))) (k_19 + 1)).1 i9 ∧ f_62 i9 = (rnd n3 (fun i9 => shD a2 (drT (fv 9) u9) (fv 9 (40 * u9 + i9))) (fun i9 => shR a2 (drT (fv 9) u9) (fv 9 (40 * u9 + i9))) (k_19 + 1)).2 i9 from fun i9 h9 => by rw [hf_61, hf_63]; exact rn_m hr_22 hb_57 (by omega) h9)⟩ hP hD hS (lv_sub hl [0, 3, 4, 5, 6] rfl)
    have d_64 := n_nle (a := n3) (b := k2_50) (by omega) (by omega) c_55
    refine lv_aload_n hx hb dX9_draw_101 rfl (lv_at hl 6 rfl) ?_
    refine va_get (D := D) (ci := 9) (v := .ref (ad 24)) (C := RX9) (T := TX9) (N := 44) hx hb hts hin9 hown hK hP 0 rfl rfl 24 (by decide) (hts (.fieldLink RX9 83 "HoneyHouseModel" "rest" "[J") (List.mem_of_getElem? (i := 4) rfl)) (fun _ h9 => h9) rfl dX9_draw_102 ?_
    refine lv_iload hx hb dX9_draw_105 (lv_at hl 0 rfl) ?_
    refine va_lald (f := g24_18) (n := 40) hx hb hK hP 18 17 rfl rfl (vp_in_nI (n := k2_50) (by omega) (by omega)) dX9_draw_107 ?_
    refine lv_topl (fun z_65 hz_66 => ?_)
    rw [nI_clamp (n := k2_50) (by omega)] at hz_66
    obtain rfl : z_65 = g24_18 k2_50 := hz_66
    refine lv_aload_n hx hb dX9_draw_108 rfl (lv_at hl 6 rfl) ?_
    refine va_get (D := D) (ci := 9) (v := .ref (ad 24)) (C := RX9) (T := TX9) (N := 44) hx hb hts hin9 hown hK hP 0 rfl rfl 24 (by decide) (hts (.fieldLink RX9 83 "HoneyHouseModel" "rest" "[J") (List.mem_of_getElem? (i := 4) rfl)) (fun _ h9 => h9) rfl dX9_draw_109 ?_
    refine lv_iload hx hb dX9_draw_112 (lv_at hl 1 rfl) ?_
    refine va_lald (f := g24_18) (n := 40) hx hb hK hP 18 17 rfl rfl (vp_in_nI (n := b_49) (by omega) (by omega)) dX9_draw_114 ?_
    refine lv_topl (fun z_67 hz_68 => ?_)
    rw [nI_clamp (n := b_49) (by omega)] at hz_68
    obtain rfl : z_67 = g24_18 b_49 := hz_68
    refine W.lcmp hx hb dX9_draw_115 ?_
    refine lv_if_le (tgt := 124) hx hb dX9_draw_116 (by decide) (fun c_69 => ?_) (fun c_69 => ?_)
    · refine lv_iload hx hb dX9_draw_124 (lv_at hl 1 rfl) ?_
      refine lv_istore (lv' := [(6, .int (nI b_49)), (7, .int (nI k2_50)), (5, .int x_16), (3, .long (drT (fv 9) u9)), (2, .int a2), (1, .int (nI u9)), (0, .ref h0)]) hx hb dX9_draw_126 hl (by decide) rfl (fun ls hl => ?_)
      refine lv_iinc (v := nI (k2_50 + 1)) (lv' := [(7, .int (nI (k2_50 + 1))), (6, .int (nI b_49)), (5, .int x_16), (3, .long (drT (fv 9) u9)), (2, .int a2), (1, .int (nI u9)), (0, .ref h0)]) hx hb dX9_draw_128 hl (k := 1) rfl (nI_add k2_50 1) (by decide) rfl (fun ls hl => ?_)
      refine lv_goto (tgt := 92) hx hb dX9_draw_131 (by decide) ?_
      exact ih_48 (b_49, k2_50 + 1) (mw h0 ad cs iv (uF fv 23 f23_17) g24_18) _ _ ls (by show n3 - (k2_50 + 1) < n3 - k2_50; omega) ⟨rfl, (show b_49 < n3 from by omega), (show (k2_50 + 1) ≤ n3 from by omega), (show 1 ≤ (k2_50 + 1) from by omega), (show b_49 = bst g24_18 (k2_50 + 1) from bst_o hb_54 (fun h8 => by have h7 := (lg_cmp_le _ _).mp c_69; rw [Int64.le_iff_toInt_le] at h7; rw [Int64.lt_iff_toInt_lt] at h8; omega))⟩ hP hD hS (lv_sub hl [0, 1, 2, 3, 4, 5, 6] rfl)
    refine lv_iload hx hb dX9_draw_119 (lv_at hl 0 rfl) ?_
    refine lv_goto (tgt := 126) hx hb dX9_draw_121 (by decide) ?_
    refine lv_istore (lv' := [(6, .int (nI k2_50)), (7, .int (nI k2_50)), (5, .int x_16), (3, .long (drT (fv 9) u9)), (2, .int a2), (1, .int (nI u9)), (0, .ref h0)]) hx hb dX9_draw_126 hl (by decide) rfl (fun ls hl => ?_)
    refine lv_iinc (v := nI (k2_50 + 1)) (lv' := [(7, .int (nI (k2_50 + 1))), (6, .int (nI k2_50)), (5, .int x_16), (3, .long (drT (fv 9) u9)), (2, .int a2), (1, .int (nI u9)), (0, .ref h0)]) hx hb dX9_draw_128 hl (k := 1) rfl (nI_add k2_50 1) (by decide) rfl (fun ls hl => ?_)
    refine lv_goto (tgt := 92) hx hb dX9_draw_131 (by decide) ?_
    exact ih_48 (k2_50, k2_50 + 1) (mw h0 ad cs iv (uF fv 23 f23_17) g24_18) _ _ ls (by show n3 - (k2_50 + 1) < n3 - k2_50; omega) ⟨rfl, (show k2_50 < n3 from by omega), (show (k2_50 + 1) ≤ n3 from by omega), (show 1 ≤ (k2_50 + 1) from by omega), (show k2_50 = bst g24_18 (k2_50 + 1) from bst_y hb_54 (by rw [Int64.lt_iff_toInt_lt]; have h7 : ¬ _ := fun h6 => c_69 ((lg_cmp_le _ _).mpr h6); rw [Int64.le_iff_toInt_le] at h7; omega))⟩ hP hD hS (lv_sub hl [0, 1, 2, 3, 4, 5, 6] rfl)
  have d_70 := n_nle (a := n3) (b := i_6) (by omega) (by omega) c_13
  refine lv_iload_n hx hb dX9_draw_22 rfl (lv_at hl 3 rfl) ?_
  refine lv_i2l hx hb dX9_draw_23 rfl ?_
  refine lv_aload_n hx hb dX9_draw_24 rfl (lv_at hl 5 rfl) ?_
  refine va_get (D := D) (ci := 9) (v := .ref (ad 9)) (C := RX9) (T := TX9) (N := 44) hx hb hts hin9 hown hK hP 0 rfl rfl 9 (by decide) (hts (.fieldLink RX9 38 "HoneyHouseModel" "grams" "[I") (List.mem_of_getElem? (i := 2) rfl)) (fun _ h9 => h9) rfl dX9_draw_25 ?_
  refine lv_bipush (v := 40) hx hb dX9_draw_28 (by decide) ?_
  refine lv_iload_n hx hb dX9_draw_30 rfl (lv_at hl 4 rfl) ?_
  refine lv_imul hx hb dX9_draw_31 ?_
  refine tp_i (y := nI (40 * u9)) (pk_mul 40 u9) ?_
  refine lv_iload hx hb dX9_draw_32 (lv_at hl 0 rfl) ?_
  refine lv_iadd hx hb dX9_draw_34 ?_
  refine tp_i (y := nI ((40 * u9) + i_6)) (nI_add (40 * u9) i_6) ?_
  refine va_iald (f := fv 9) (n := 2800) hx hb hK hP 7 6 rfl rfl (vp_in_nI (n := (40 * u9) + i_6) (by omega) (by omega)) dX9_draw_35 ?_
  refine lv_topi (fun z_71 hz_72 => ?_)
  rw [nI_clamp (n := (40 * u9) + i_6) (by omega)] at hz_72
  obtain rfl : z_71 = fv 9 ((40 * u9) + i_6) := hz_72
  refine lv_i2l hx hb dX9_draw_36 rfl ?_
  refine lv_lmul hx hb dX9_draw_37 ?_
  refine lv_lstore (lv' := [(7, .long (a2.toInt64 * ((fv 9 ((40 * u9) + i_6)).toInt64))), (6, .int (nI i_6)), (5, .int x_7), (3, .long (drT (fv 9) u9)), (2, .int a2), (1, .int (nI u9)), (0, .ref h0)]) hx hb dX9_draw_38 hl (by decide) rfl (fun ls hl => ?_)
  refine lv_aload_n hx hb dX9_draw_40 rfl (lv_at hl 6 rfl) ?_
  refine va_get (D := D) (ci := 9) (v := .ref (ad 23)) (C := RX9) (T := TX9) (N := 44) hx hb hts hin9 hown hK hP 0 rfl rfl 23 (by decide) (hts (.fieldLink RX9 80 "HoneyHouseModel" "drawn" "[I") (List.mem_of_getElem? (i := 3) rfl)) (fun _ h9 => h9) rfl dX9_draw_41 ?_
  refine lv_iload hx hb dX9_draw_44 (lv_at hl 1 rfl) ?_
  refine lv_lload hx hb dX9_draw_46 (lv_at hl 0 rfl) ?_
  refine lv_lload_n hx hb dX9_draw_48 rfl (lv_at hl 3 rfl) ?_
  refine lv_ldiv hx hb dX9_draw_49 hT0 ?_
  refine lv_l2i hx hb dX9_draw_50 rfl ?_
  refine va_iast (f := f23_8) (n := 40) hx hb hK hP hD hS 17 16 rfl rfl (vp_in_nI (n := i_6) (by omega) (by omega)) dX9_draw_51 (fun H locs hP hD hS => ?_)
  have hP : va_P D vwCl (mw h0 ad cs iv (uF fv 23 (upd f23_8 (nI i_6).toNatClampNeg (((a2.toInt64 * ((fv 9 ((40 * u9) + i_6)).toInt64)) / (drT (fv 9) u9)).toInt32))) g24_9) H := hP
  have hD : va_D A (mw h0 ad cs iv (uF fv 23 (upd f23_8 (nI i_6).toNatClampNeg (((a2.toInt64 * ((fv 9 ((40 * u9) + i_6)).toInt64)) / (drT (fv 9) u9)).toInt32))) g24_9) := hD
  obtain ⟨f_73, hf_74⟩ : ∃ g9, g9 = upd f23_8 (nI i_6).toNatClampNeg (((a2.toInt64 * ((fv 9 ((40 * u9) + i_6)).toInt64)) / (drT (fv 9) u9)).toInt32) := ⟨_, rfl⟩
  rw [← hf_74] at hP hD
  rw [nI_clamp (n := i_6) (by omega)] at hf_74
  refine lv_aload_n hx hb dX9_draw_52 rfl (lv_at hl 6 rfl) ?_
  refine va_get (D := D) (ci := 9) (v := .ref (ad 24)) (C := RX9) (T := TX9) (N := 44) hx hb hts hin9 hown hK hP 0 rfl rfl 24 (by decide) (hts (.fieldLink RX9 83 "HoneyHouseModel" "rest" "[J") (List.mem_of_getElem? (i := 4) rfl)) (fun _ h9 => h9) rfl dX9_draw_53 ?_
  refine lv_iload hx hb dX9_draw_56 (lv_at hl 1 rfl) ?_
  refine lv_lload hx hb dX9_draw_58 (lv_at hl 0 rfl) ?_
  refine lv_lload_n hx hb dX9_draw_60 rfl (lv_at hl 3 rfl) ?_
  refine lv_lrem hx hb dX9_draw_61 hT0 ?_
  refine va_last (f := g24_9) (n := 40) hx hb hK hP hD hS 18 17 rfl rfl (vp_in_nI (n := i_6) (by omega) (by omega)) dX9_draw_62 (fun H locs hP hD hS => ?_)
  have hP : va_P D vwCl (mw h0 ad cs iv (uF fv 23 f_73) (vp_updL g24_9 (nI i_6).toNatClampNeg ((a2.toInt64 * ((fv 9 ((40 * u9) + i_6)).toInt64)) - (a2.toInt64 * ((fv 9 ((40 * u9) + i_6)).toInt64)) / (drT (fv 9) u9) * (drT (fv 9) u9)))) H := hP
  have hD : va_D A (mw h0 ad cs iv (uF fv 23 f_73) (vp_updL g24_9 (nI i_6).toNatClampNeg ((a2.toInt64 * ((fv 9 ((40 * u9) + i_6)).toInt64)) - (a2.toInt64 * ((fv 9 ((40 * u9) + i_6)).toInt64)) / (drT (fv 9) u9) * (drT (fv 9) u9)))) := hD
  obtain ⟨f_75, hf_76⟩ : ∃ g9, g9 = vp_updL g24_9 (nI i_6).toNatClampNeg ((a2.toInt64 * ((fv 9 ((40 * u9) + i_6)).toInt64)) - (a2.toInt64 * ((fv 9 ((40 * u9) + i_6)).toInt64)) / (drT (fv 9) u9) * (drT (fv 9) u9)) := ⟨_, rfl⟩
  rw [← hf_76] at hP hD
  rw [nI_clamp (n := i_6) (by omega)] at hf_76
  refine lv_iload hx hb dX9_draw_63 (lv_at hl 2 rfl) ?_
  refine lv_aload_n hx hb dX9_draw_65 rfl (lv_at hl 6 rfl) ?_
  refine va_get (D := D) (ci := 9) (v := .ref (ad 23)) (C := RX9) (T := TX9) (N := 44) hx hb hts hin9 hown hK hP 0 rfl rfl 23 (by decide) (hts (.fieldLink RX9 80 "HoneyHouseModel" "drawn" "[I") (List.mem_of_getElem? (i := 3) rfl)) (fun _ h9 => h9) rfl dX9_draw_66 ?_
  refine lv_iload hx hb dX9_draw_69 (lv_at hl 1 rfl) ?_
  refine va_iald (f := f_73) (n := 40) hx hb hK hP 17 16 rfl rfl (vp_in_nI (n := i_6) (by omega) (by omega)) dX9_draw_71 ?_
  refine lv_topi (fun z_77 hz_78 => ?_)
  rw [nI_clamp (n := i_6) (by omega)] at hz_78
  obtain rfl : z_77 = f_73 i_6 := hz_78
  refine lv_isub hx hb dX9_draw_72 ?_
  refine lv_istore (lv' := [(5, .int (x_7 - (f_73 i_6))), (7, .long (a2.toInt64 * ((fv 9 ((40 * u9) + i_6)).toInt64))), (6, .int (nI i_6)), (3, .long (drT (fv 9) u9)), (2, .int a2), (1, .int (nI u9)), (0, .ref h0)]) hx hb dX9_draw_73 hl (by decide) rfl (fun ls hl => ?_)
  refine lv_iinc (v := nI (i_6 + 1)) (lv' := [(6, .int (nI (i_6 + 1))), (5, .int (x_7 - (f_73 i_6))), (7, .long (a2.toInt64 * ((fv 9 ((40 * u9) + i_6)).toInt64))), (3, .long (drT (fv 9) u9)), (2, .int a2), (1, .int (nI u9)), (0, .ref h0)]) hx hb dX9_draw_75 hl (k := 2) rfl (nI_add i_6 1) (by decide) rfl (fun ls hl => ?_)
  refine lv_goto (tgt := 13) hx hb dX9_draw_78 (by decide) ?_
  exact ih_5 (i_6 + 1, x_7 - (f_73 i_6), f_73, f_75) (mw h0 ad cs iv (uF fv 23 f_73) f_75) _ _ ls (by show n3 - (i_6 + 1) < n3 - i_6; omega) ⟨rfl, (show (i_6 + 1) ≤ n3 from by omega), (show (x_7 - (f_73 i_6)) = lak a2 (drT (fv 9) u9) (fun i9 => fv 9 (40 * u9 + i9)) (i_6 + 1) from by rw [hf_74, upd_s, hx_11]; rfl), (show ∀ i9 : Nat, i9 < (i_6 + 1) → f_73 i9 = shD a2 (drT (fv 9) u9) (fv 9 (40 * u9 + i9)) ∧ f_75 i9 = shR a2 (drT (fv 9) u9) (fv 9 (40 * u9 + i9)) from fun i9 h9 => by rw [hf_74, hf_76]; exact sh_s (f := (fun i9 => fv 9 (40 * u9 + i9))) hd_12 h9)⟩ hP hD hS (lv_sub hl [0, 1, 3, 4, 5, 6] rfl)
set_option maxHeartbeats 4000000 in
set_option maxRecDepth 100000 in
theorem m_spill (l : Launch) (D : va_G) (h0 : Nat) (ad : Nat → Nat) (cs : Nat → ClassId) (iv : Nat → Int32) (fv : Nat → Nat → Int32) (gv : Nat → Int64) (n3 : Nat) (a1 a2 : Int32) (sz : Nat) (h3 : iv 3 = nI n3) (b3 : n3 ≤ 40) (hV : NV fv n3) : Met l yX9_spill wsX9_spill ({ frames := 2, cells := 0, slots := 0, locals := 51 }) (va_Pc [.ref h0, .int a1, .int a2] (fun U => U.heap.size = sz ∧ va_P D vwCl (mw h0 ad cs iv fv gv) U.heap ∧ va_K D vwCl (mT cs) U ∧ va_D (fun _ => True) (mw h0 ad cs iv fv gv))) (va_Qi (fun (r u : Int32) => r = u) (fun (r : Int32) (t : State) => ∃ (f9 : Nat → Int32) (f10 : Nat → Int32) (f23 : Nat → Int32) (g24 : Nat → Int64), ((spiN fv a1 a2 ∧ r = (if (a1 < 0 ∨ 9 < a1) then (-1) else (-2)) ∧ f9 = fv 9 ∧ f10 = fv 10) ∨ (¬ spiN fv a1 a2 ∧ r = drA (fv 9) a1.toNatClampNeg a2 ∧ f9 = drF (fv 9) a1.toNatClampNeg a2 ∧ f10 = upd (fv 10) a1.toNatClampNeg (if drA (fv 9) a1.toNatClampNeg a2 = 0 then 0 else fv 10 a1.toNatClampNeg))) ∧ va_P D vwCl (mw h0 ad cs iv (uF (uF (uF fv 9 f9) 10 f10) 23 f23) g24) t.heap ∧ va_K D vwCl (mT cs) t ∧ va_D (va_A (mw h0 ad cs iv fv gv) sz) (mw h0 ad cs iv (uF (uF (uF fv 9 f9) 10 f10) 23 f23) g24)) (va_A (mw h0 ad cs iv fv gv) sz)) 0 0 (va_A (mw h0 ad cs iv fv gv) sz) := by
  refine Met.ofW (cc := cX9_spill) (maxL := 3) (ret := (some .int)) (by decide) rfl ?_
  intro p e s m args below meth c s₁ B hml hv
  obtain ⟨rfl, hsz, hP, hK, hD0⟩ := hv
  have hx := B.exec
  have hb := B.bytes
  have hr := B.returns
  have hts := atoms_spec (ws := wsX9_spill) B.pre
  have hown : s.vm.findClass RX9 = some m.cls := findClass_of_methodNamed B.named
  have hlocks := B.notSynchronized
  subst hsz
  have hD := hD0.self (sz := s.heap.size)
  generalize hAe : va_A (mw h0 ad cs iv fv gv) s.heap.size = A at hD ⊢
  have hA : ∀ q : Nat, s.heap.size ≤ q → A q := fun q h => by rw [← hAe]; exact Or.inr h
  have hS : va_S A s.heap s.heap [] := va_S.rf
  have hl := lv_entry ([.ref h0, .int a1, .int a2]) (n := 3) (Nat.le_of_ble_eq_true rfl)
  rw [lg_entry_eq]
  generalize (lg_sl ([.ref h0, .int a1, .int a2]) ++ List.replicate (3 - (lg_sl ([.ref h0, .int a1, .int a2])).length) Slot.unset).toArray = ls at hl ⊢
  have hl : lv_has ls 3 [(0, .ref h0), (1, .int a1), (2, .int a2)] := hl
  refine lv_iload_n hx hb dX9_spill_0 rfl (lv_at hl 1 rfl) ?_
  refine vp_callSi (W.runS (As := [.int a1]) (rest := []) ⟨hx, hb, hml, hown, hts⟩ (s_X9_isTank l a1) (va_cwS 1 hts gX9_spill_X9_isTank rfl rfl rfl (by decide +kernel) ⟨Nat.le_of_ble_eq_true rfl, Nat.le_of_ble_eq_true rfl⟩) ⟨fun a U g mk q => q, fun U hU hW => ⟨rfl, trivial⟩⟩ rfl rfl hl.1 rfl (lv_room (Nat.le_of_ble_eq_true rfl)) dX9_spill_1 ⟨Nat.le_of_ble_eq_true rfl, Nat.le_of_ble_eq_true rfl⟩) (fun r_1 k_2 => ?_)
  rcases k_2 with ⟨rfl, o_3⟩ | ⟨rfl, a_4, b_5⟩
  · refine lv_if_ne (tgt := 9) hx hb dX9_spill_4 (by decide) (fun c_6 => absurd (by decide) c_6) (fun c_6 => ?_)
    refine lv_iconst (v := (-1)) hx hb dX9_spill_7 (by decide) ?_
    have hP : va_P D vwCl (mw h0 ad cs iv (uF (uF (uF fv 9 (fv 9)) 10 (fv 10)) 23 (fv 23)) gv) s.heap := hP
    have hD : va_D A (mw h0 ad cs iv (uF (uF (uF fv 9 (fv 9)) 10 (fv 10)) 23 (fv 23)) gv) := hD
    exact W.iret (v := (-1)) hx hb hr (fun t ht hW => ⟨⟨(-1), (-1), rfl, rfl, fv 9, fv 10, fv 23, gv, Or.inl ⟨Or.inl o_3, (if_pos o_3).symm, rfl, rfl⟩, by rw [ht]; exact hP, va_K.moved hW.alike hK, hD⟩, hS.F ht⟩) hS.2.2 dX9_spill_8
  obtain ⟨j_7, hj_8, hj_9, rfl⟩ := is_nat (a := 0) (b := 9) a_4 b_5 (by omega)
  refine lv_if_ne (tgt := 9) hx hb dX9_spill_4 (by decide) (fun c_10 => ?_) (fun c_10 => absurd c_10 (by decide))
  refine lv_iload_n hx hb dX9_spill_9 rfl (lv_at hl 2 rfl) ?_
  refine lv_iconst (v := 1) hx hb dX9_spill_10 (by decide) ?_
  refine lv_icmp_lt (tgt := 23) hx hb dX9_spill_11 (by decide) (fun c_11 => ?_) (fun c_11 => ?_)
  · refine lv_bipush (v := (-2)) hx hb dX9_spill_23 (by decide) ?_
    have hP : va_P D vwCl (mw h0 ad cs iv (uF (uF (uF fv 9 (fv 9)) 10 (fv 10)) 23 (fv 23)) gv) s.heap := hP
    have hD : va_D A (mw h0 ad cs iv (uF (uF (uF fv 9 (fv 9)) 10 (fv 10)) 23 (fv 23)) gv) := hD
    exact W.iret (v := (-2)) hx hb hr (fun t ht hW => ⟨⟨(-2), (-2), rfl, rfl, fv 9, fv 10, fv 23, gv, Or.inl ⟨Or.inr (Or.inl c_11), (if_neg (fun h => Or.elim h a_4 b_5)).symm, rfl, rfl⟩, by rw [ht]; exact hP, va_K.moved hW.alike hK, hD⟩, hS.F ht⟩) hS.2.2 dX9_spill_25
  refine lv_iload_n hx hb dX9_spill_14 rfl (lv_at hl 2 rfl) ?_
  refine lv_aload_n hx hb dX9_spill_15 rfl (lv_at hl 0 rfl) ?_
  refine lv_iload_n hx hb dX9_spill_16 rfl (lv_at hl 1 rfl) ?_
  refine vp_callSi (W.runV (As := [.int (nI j_7)]) (rest := [.int a2]) ⟨hx, hb, hml, hown, hts⟩ (m_all l D h0 ad cs iv fv gv n3 j_7 h3 (by omega) (by omega)) (cwV 1 hts gX9_spill_X9_all rfl rfl rfl (by decide +kernel) ⟨Nat.le_of_ble_eq_true rfl, Nat.le_of_ble_eq_true rfl⟩) ⟨fun a U g mk q => ⟨q.1, q.2.1, va_K.moved (u := U) (U := U.calling g mk a) (Vm.Alike.refl U.vm) q.2.2⟩, va_recv hK hP (ci := 9) (q0 := 0) rfl rfl, fun U hU hW => ⟨rfl, by rw [hU]; exact hP, va_K.moved hW.alike hK⟩⟩ rfl rfl hl.1 rfl (lv_room (Nat.le_of_ble_eq_true rfl)) dX9_spill_17 ⟨Nat.le_of_ble_eq_true rfl, Nat.le_of_ble_eq_true rfl⟩) (fun r_12 k_13 => ?_)
  have k_14 : r_12 = mall (fv 9) j_7 n3 := k_13
  refine lv_icmp_le (tgt := 26) hx hb dX9_spill_20 (by decide) (fun c_15 => ?_) (fun c_15 => ?_)
  · have c2_16 : ¬ mall (fv 9) j_7 40 < a2 := by rw [← nv_all hV b3 j_7 (by omega), ← k_14]; exact i_le_n c_15
    refine lv_aload_n hx hb dX9_spill_26 rfl (lv_at hl 0 rfl) ?_
    refine lv_iload_n hx hb dX9_spill_27 rfl (lv_at hl 1 rfl) ?_
    refine lv_iload_n hx hb dX9_spill_28 rfl (lv_at hl 2 rfl) ?_
    obtain ⟨G9, u8, X9, S9, L9, ex9, hX1, hXS, hS9, -, -, -, hm9, hmn, hn9, -, hL9, hu9, -, hz8, -, hl9, hr9⟩ := nv_draw hV b3 (t := j_7) (x := a2) (by omega) c_11 c2_16
    have hd9 := nv_drA hV b3 (t := j_7) (x := a2) (by omega) c_11 c2_16
    have hz9 : ∀ i9 : Nat, n3 ≤ i9 → i9 < 40 → drW (fv 9) j_7 a2 i9 = 0 := fun i9 h1 h2 => by rw [hu9 i9 h2, hz8 i9 h1 h2, nI_0]
    have hFc := free_all hD hS hA
    refine va_callv (va_runV (As := [.int (nI j_7), .int a2]) (rest := []) ⟨hx, hb, hml, hown, hts⟩ (m_draw l D h0 ad cs iv fv gv n3 j_7 S9 L9 a2 s.heap.size h3 (by omega) (by omega) hmn hm9 ⟨by omega, by omega⟩ hn9 hl9 hL9 hr9 hz9 hd9) (cwV 2 hts gX9_spill_X9_draw rfl rfl rfl (by decide +kernel) ⟨Nat.le_of_ble_eq_true rfl, Nat.le_of_ble_eq_true rfl⟩) ⟨fun a U g mk q => by obtain ⟨q0, q1, qP, qK, qD⟩ := q; exact ⟨q0, q1, qP, va_K.moved (u := U) (U := U.calling g mk a) (Vm.Alike.refl U.vm) qK, qD⟩, va_recv hK hP (ci := 9) (q0 := 0) rfl rfl, fun U hU hW => ⟨rfl, by rw [hU], by rw [hU]; exact hP, va_K.moved hW.alike hK, hD.weaken (fun _ _ _ _ => trivial)⟩⟩ rfl rfl hl.1 rfl (lv_room (Nat.le_of_ble_eq_true rfl)) dX9_spill_29 ⟨Nat.le_of_ble_eq_true rfl, Nat.le_of_ble_eq_true rfl⟩) hS (fun q _ h => hFc q h) hFc (fun u t H1 locs ht hvm w_18 hB hz1 hk1 hS => ?_)
    obtain ⟨f9_19, f10_20, f23_21, g24_22, q_23, q_24, q_25, hP1, hK1, hD1⟩ := hB
    rw [ht] at hP1
    have hK := va_K.moved hvm.symm hK1
    generalize H1 = H at hP1 hS ⊢
    have hP : va_P D vwCl (mw h0 ad cs iv (uF (uF (uF fv 9 f9_19) 10 f10_20) 23 f23_21) g24_22) H := hP1
    have hD : va_D A (mw h0 ad cs iv (uF (uF (uF fv 9 f9_19) 10 f10_20) 23 f23_21) g24_22) := hD1.weaken (fun _ _ _ h => hFc _ h)
    refine lv_aload_n hx hb dX9_spill_32 rfl (lv_at hl 0 rfl) ?_
    refine lv_iload_n hx hb dX9_spill_33 rfl (lv_at hl 1 rfl) ?_
    refine vp_callSi (W.runV (As := [.int (nI j_7)]) (rest := []) ⟨hx, hb, hml, hown, hts⟩ (m_all l D h0 ad cs iv (uF (uF (uF fv 9 f9_19) 10 f10_20) 23 f23_21) g24_22 n3 j_7 h3 (by omega) (by omega)) (cwV 1 hts gX9_spill_X9_all rfl rfl rfl (by decide +kernel) ⟨Nat.le_of_ble_eq_true rfl, Nat.le_of_ble_eq_true rfl⟩) ⟨fun a U g mk q => ⟨q.1, q.2.1, va_K.moved (u := U) (U := U.calling g mk a) (Vm.Alike.refl U.vm) q.2.2⟩, va_recv hK hP (ci := 9) (q0 := 0) rfl rfl, fun U hU hW => ⟨rfl, by rw [hU]; exact hP, va_K.moved hW.alike hK⟩⟩ rfl rfl hl.1 rfl (lv_room (Nat.le_of_ble_eq_true rfl)) dX9_spill_34 ⟨Nat.le_of_ble_eq_true rfl, Nat.le_of_ble_eq_true rfl⟩) (fun r_26 k_27 => ?_)
    have k_28 : r_26 = mall f9_19 j_7 n3 := k_27
    have hP : va_P D vwCl (mw h0 ad cs iv (uF (uF (uF fv 9 f9_19) 10 f10_20) 23 f23_21) g24_22) H := hP
    have hD : va_D A (mw h0 ad cs iv (uF (uF (uF fv 9 f9_19) 10 f10_20) 23 f23_21) g24_22) := hD
    exact W.iret (v := r_26) hx hb hr (fun t ht hW => ⟨⟨r_26, r_26, rfl, rfl, f9_19, f10_20, f23_21, g24_22, Or.inr ⟨(fun h9 => Or.elim h9 (fun h => Or.elim h a_4 b_5) (fun h9 => Or.elim h9 c_11 (fun h9 => c2_16 (by rw [nI_clamp (n := j_7) (by omega)] at h9; exact h9)))), by rw [nI_clamp (n := j_7) (by omega), ← hd9, ← q_23]; exact k_28, by rw [nI_clamp (n := j_7) (by omega)]; exact q_23, by rw [nI_clamp (n := j_7) (by omega)]; exact q_24⟩, by rw [ht]; exact hP, va_K.moved hW.alike hK, hD⟩, hS.F ht⟩) hS.2.2 dX9_spill_37
  refine lv_bipush (v := (-2)) hx hb dX9_spill_23 (by decide) ?_
  have hP : va_P D vwCl (mw h0 ad cs iv (uF (uF (uF fv 9 (fv 9)) 10 (fv 10)) 23 (fv 23)) gv) s.heap := hP
  have hD : va_D A (mw h0 ad cs iv (uF (uF (uF fv 9 (fv 9)) 10 (fv 10)) 23 (fv 23)) gv) := hD
  exact W.iret (v := (-2)) hx hb hr (fun t ht hW => ⟨⟨(-2), (-2), rfl, rfl, fv 9, fv 10, fv 23, gv, Or.inl ⟨Or.inr (Or.inr (by rw [nI_clamp (n := j_7) (by omega), ← nv_all hV b3 j_7 (by omega), ← k_14]; exact i_nle c_15)), (if_neg (fun h => Or.elim h a_4 b_5)).symm, rfl, rfl⟩, by rw [ht]; exact hP, va_K.moved hW.alike hK, hD⟩, hS.F ht⟩) hS.2.2 dX9_spill_25
set_option maxHeartbeats 4000000 in
set_option maxRecDepth 100000 in
theorem m_move (l : Launch) (D : va_G) (h0 : Nat) (ad : Nat → Nat) (cs : Nat → ClassId) (iv : Nat → Int32) (fv : Nat → Nat → Int32) (gv : Nat → Int64) (n3 : Nat) (a1 a2 a3 : Int32) (sz : Nat) (h3 : iv 3 = nI n3) (b3 : n3 ≤ 40) (hV : NV fv n3) : Met l yX9_move wsX9_move ({ frames := 2, cells := 0, slots := 0, locals := 51 }) (va_Pc [.ref h0, .int a1, .int a2, .int a3] (fun U => U.heap.size = sz ∧ va_P D vwCl (mw h0 ad cs iv fv gv) U.heap ∧ va_K D vwCl (mT cs) U ∧ va_D (fun _ => True) (mw h0 ad cs iv fv gv))) (va_Qi (fun (r u : Int32) => r = u) (fun (r : Int32) (t : State) => ∃ (f9 : Nat → Int32) (f10 : Nat → Int32) (f23 : Nat → Int32) (g24 : Nat → Int64), ((movN fv a1 a2 a3 ∧ r = (if ((a1 < 0 ∨ 9 < a1) ∨ (a2 < 0 ∨ 9 < a2) ∨ a1 = a2) then (-1) else (-2)) ∧ f9 = fv 9 ∧ f10 = fv 10) ∨ (¬ movN fv a1 a2 a3 ∧ r = drA (fv 9) a1.toNatClampNeg a3 ∧ f9 = rwA (drF (fv 9) a1.toNatClampNeg a3) a2.toNatClampNeg (drW (fv 9) a1.toNatClampNeg a3) ∧ f10 = movH (fv 9) (fv 10) a1.toNatClampNeg a2.toNatClampNeg a3)) ∧ va_P D vwCl (mw h0 ad cs iv (uF (uF (uF fv 9 f9) 10 f10) 23 f23) g24) t.heap ∧ va_K D vwCl (mT cs) t ∧ va_D (va_A (mw h0 ad cs iv fv gv) sz) (mw h0 ad cs iv (uF (uF (uF fv 9 f9) 10 f10) 23 f23) g24)) (va_A (mw h0 ad cs iv fv gv) sz)) 0 0 (va_A (mw h0 ad cs iv fv gv) sz) := by
  refine Met.ofW (cc := cX9_move) (maxL := 6) (ret := (some .int)) (by decide) rfl ?_
  intro p e s m args below meth c s₁ B hml hv
  obtain ⟨rfl, hsz, hP, hK, hD0⟩ := hv
  have hx := B.exec
  have hb := B.bytes
  have hr := B.returns
  have hts := atoms_spec (ws := wsX9_move) B.pre
  have hown : s.vm.findClass RX9 = some m.cls := findClass_of_methodNamed B.named
  have hlocks := B.notSynchronized
  subst hsz
  have hD := hD0.self (sz := s.heap.size)
  generalize hAe : va_A (mw h0 ad cs iv fv gv) s.heap.size = A at hD ⊢
  have hA : ∀ q : Nat, s.heap.size ≤ q → A q := fun q h => by rw [← hAe]; exact Or.inr h
  have hS : va_S A s.heap s.heap [] := va_S.rf
  have hin9 : ∀ w ∈ u_ws RX9 TX9 44, w ∈ wsX9_move := (fun _ h9 => List.mem_cons_of_mem _ ((List.mem_append_right _ h9)))
  have hl := lv_entry ([.ref h0, .int a1, .int a2, .int a3]) (n := 6) (Nat.le_of_ble_eq_true rfl)
  rw [lg_entry_eq]
  generalize (lg_sl ([.ref h0, .int a1, .int a2, .int a3]) ++ List.replicate (6 - (lg_sl ([.ref h0, .int a1, .int a2, .int a3])).length) Slot.unset).toArray = ls at hl ⊢
  have hl : lv_has ls 6 [(0, .ref h0), (1, .int a1), (2, .int a2), (3, .int a3)] := hl
  refine lv_iload_n hx hb dX9_move_0 rfl (lv_at hl 1 rfl) ?_
  refine vp_callSi (W.runS (As := [.int a1]) (rest := []) ⟨hx, hb, hml, hown, hts⟩ (s_X9_isTank l a1) (va_cwS 1 hts gX9_move_X9_isTank rfl rfl rfl (by decide +kernel) ⟨Nat.le_of_ble_eq_true rfl, Nat.le_of_ble_eq_true rfl⟩) ⟨fun a U g mk q => q, fun U hU hW => ⟨rfl, trivial⟩⟩ rfl rfl hl.1 rfl (lv_room (Nat.le_of_ble_eq_true rfl)) dX9_move_1 ⟨Nat.le_of_ble_eq_true rfl, Nat.le_of_ble_eq_true rfl⟩) (fun r_1 k_2 => ?_)
  rcases k_2 with ⟨rfl, o_3⟩ | ⟨rfl, a_4, b_5⟩
  · refine lv_if_eq (tgt := 19) hx hb dX9_move_4 (by decide) (fun c_6 => ?_) (fun c_6 => absurd (by decide) c_6)
    refine lv_iconst (v := (-1)) hx hb dX9_move_19 (by decide) ?_
    have hP : va_P D vwCl (mw h0 ad cs iv (uF (uF (uF fv 9 (fv 9)) 10 (fv 10)) 23 (fv 23)) gv) s.heap := hP
    have hD : va_D A (mw h0 ad cs iv (uF (uF (uF fv 9 (fv 9)) 10 (fv 10)) 23 (fv 23)) gv) := hD
    exact W.iret (v := (-1)) hx hb hr (fun t ht hW => ⟨⟨(-1), (-1), rfl, rfl, fv 9, fv 10, fv 23, gv, Or.inl ⟨Or.inl (Or.inl o_3), (if_pos (Or.inl o_3)).symm, rfl, rfl⟩, by rw [ht]; exact hP, va_K.moved hW.alike hK, hD⟩, hS.F ht⟩) hS.2.2 dX9_move_20
  obtain ⟨j_7, hj_8, hj_9, rfl⟩ := is_nat (a := 0) (b := 9) a_4 b_5 (by omega)
  refine lv_if_eq (tgt := 19) hx hb dX9_move_4 (by decide) (fun c_10 => absurd c_10 (by decide)) (fun c_10 => ?_)
  refine lv_iload_n hx hb dX9_move_7 rfl (lv_at hl 2 rfl) ?_
  refine vp_callSi (W.runS (As := [.int a2]) (rest := []) ⟨hx, hb, hml, hown, hts⟩ (s_X9_isTank l a2) (va_cwS 1 hts gX9_move_X9_isTank rfl rfl rfl (by decide +kernel) ⟨Nat.le_of_ble_eq_true rfl, Nat.le_of_ble_eq_true rfl⟩) ⟨fun a U g mk q => q, fun U hU hW => ⟨rfl, trivial⟩⟩ rfl rfl hl.1 rfl (lv_room (Nat.le_of_ble_eq_true rfl)) dX9_move_8 ⟨Nat.le_of_ble_eq_true rfl, Nat.le_of_ble_eq_true rfl⟩) (fun r_11 k_12 => ?_)
  rcases k_12 with ⟨rfl, o_13⟩ | ⟨rfl, a_14, b_15⟩
  · refine lv_if_eq (tgt := 19) hx hb dX9_move_11 (by decide) (fun c_16 => ?_) (fun c_16 => absurd (by decide) c_16)
    refine lv_iconst (v := (-1)) hx hb dX9_move_19 (by decide) ?_
    have hP : va_P D vwCl (mw h0 ad cs iv (uF (uF (uF fv 9 (fv 9)) 10 (fv 10)) 23 (fv 23)) gv) s.heap := hP
    have hD : va_D A (mw h0 ad cs iv (uF (uF (uF fv 9 (fv 9)) 10 (fv 10)) 23 (fv 23)) gv) := hD
    exact W.iret (v := (-1)) hx hb hr (fun t ht hW => ⟨⟨(-1), (-1), rfl, rfl, fv 9, fv 10, fv 23, gv, Or.inl ⟨Or.inl (Or.inr (Or.inl o_13)), (if_pos (Or.inr (Or.inl o_13))).symm, rfl, rfl⟩, by rw [ht]; exact hP, va_K.moved hW.alike hK, hD⟩, hS.F ht⟩) hS.2.2 dX9_move_20
  obtain ⟨j_17, hj_18, hj_19, rfl⟩ := is_nat (a := 0) (b := 9) a_14 b_15 (by omega)
  refine lv_if_eq (tgt := 19) hx hb dX9_move_11 (by decide) (fun c_20 => absurd c_20 (by decide)) (fun c_20 => ?_)
  refine lv_iload_n hx hb dX9_move_14 rfl (lv_at hl 1 rfl) ?_
  refine lv_iload_n hx hb dX9_move_15 rfl (lv_at hl 2 rfl) ?_
  refine lv_icmp_ne (tgt := 21) hx hb dX9_move_16 (by decide) (fun c_21 => ?_) (fun c_21 => ?_)
  · have d_22 := n_ne (a := j_7) (b := j_17) (by omega) (by omega) c_21
    refine lv_iload_n hx hb dX9_move_21 rfl (lv_at hl 3 rfl) ?_
    refine lv_iconst (v := 1) hx hb dX9_move_22 (by decide) ?_
    refine lv_icmp_lt (tgt := 51) hx hb dX9_move_23 (by decide) (fun c_23 => ?_) (fun c_23 => ?_)
    · refine lv_bipush (v := (-2)) hx hb dX9_move_51 (by decide) ?_
      have hP : va_P D vwCl (mw h0 ad cs iv (uF (uF (uF fv 9 (fv 9)) 10 (fv 10)) 23 (fv 23)) gv) s.heap := hP
      have hD : va_D A (mw h0 ad cs iv (uF (uF (uF fv 9 (fv 9)) 10 (fv 10)) 23 (fv 23)) gv) := hD
      exact W.iret (v := (-2)) hx hb hr (fun t ht hW => ⟨⟨(-2), (-2), rfl, rfl, fv 9, fv 10, fv 23, gv, Or.inl ⟨Or.inr (Or.inl (Or.inl c_23)), (if_neg (fun h => Or.elim h (fun h => Or.elim h a_4 b_5) (fun h => Or.elim h (fun h => Or.elim h a_14 b_15) c_21))).symm, rfl, rfl⟩, by rw [ht]; exact hP, va_K.moved hW.alike hK, hD⟩, hS.F ht⟩) hS.2.2 dX9_move_53
    refine lv_iload_n hx hb dX9_move_26 rfl (lv_at hl 3 rfl) ?_
    refine lv_aload_n hx hb dX9_move_27 rfl (lv_at hl 0 rfl) ?_
    refine lv_iload_n hx hb dX9_move_28 rfl (lv_at hl 1 rfl) ?_
    refine vp_callSi (W.runV (As := [.int (nI j_7)]) (rest := [.int a3]) ⟨hx, hb, hml, hown, hts⟩ (m_all l D h0 ad cs iv fv gv n3 j_7 h3 (by omega) (by omega)) (cwV 1 hts gX9_move_X9_all rfl rfl rfl (by decide +kernel) ⟨Nat.le_of_ble_eq_true rfl, Nat.le_of_ble_eq_true rfl⟩) ⟨fun a U g mk q => ⟨q.1, q.2.1, va_K.moved (u := U) (U := U.calling g mk a) (Vm.Alike.refl U.vm) q.2.2⟩, va_recv hK hP (ci := 9) (q0 := 0) rfl rfl, fun U hU hW => ⟨rfl, by rw [hU]; exact hP, va_K.moved hW.alike hK⟩⟩ rfl rfl hl.1 rfl (lv_room (Nat.le_of_ble_eq_true rfl)) dX9_move_29 ⟨Nat.le_of_ble_eq_true rfl, Nat.le_of_ble_eq_true rfl⟩) (fun r_24 k_25 => ?_)
    have k_26 : r_24 = mall (fv 9) j_7 n3 := k_25
    refine lv_icmp_gt (tgt := 51) hx hb dX9_move_32 (by decide) (fun c_27 => ?_) (fun c_27 => ?_)
    · refine lv_bipush (v := (-2)) hx hb dX9_move_51 (by decide) ?_
      have hP : va_P D vwCl (mw h0 ad cs iv (uF (uF (uF fv 9 (fv 9)) 10 (fv 10)) 23 (fv 23)) gv) s.heap := hP
      have hD : va_D A (mw h0 ad cs iv (uF (uF (uF fv 9 (fv 9)) 10 (fv 10)) 23 (fv 23)) gv) := hD
      exact W.iret (v := (-2)) hx hb hr (fun t ht hW => ⟨⟨(-2), (-2), rfl, rfl, fv 9, fv 10, fv 23, gv, Or.inl ⟨Or.inr (Or.inl (Or.inr (by rw [nI_clamp (n := j_7) (by omega), ← nv_all hV b3 j_7 (by omega), ← k_26]; exact c_27))), (if_neg (fun h => Or.elim h (fun h => Or.elim h a_4 b_5) (fun h => Or.elim h (fun h => Or.elim h a_14 b_15) c_21))).symm, rfl, rfl⟩, by rw [ht]; exact hP, va_K.moved hW.alike hK, hD⟩, hS.F ht⟩) hS.2.2 dX9_move_53
    have c2_28 : ¬ mall (fv 9) j_7 40 < a3 := by rw [← nv_all hV b3 j_7 (by omega), ← k_26]; exact c_27
    refine lv_iload_n hx hb dX9_move_35 rfl (lv_at hl 3 rfl) ?_
    refine lv_aload_n hx hb dX9_move_36 rfl (lv_at hl 0 rfl) ?_
    refine va_get (D := D) (ci := 9) (v := .ref (ad 11)) (C := RX9) (T := TX9) (N := 44) hx hb hts hin9 hown hK hP 0 rfl rfl 11 (by decide) (hts (.fieldLink RX9 44 "HoneyHouseModel" "room" "[I") (List.mem_of_getElem? (i := 1) rfl)) (fun _ h9 => h9) rfl dX9_move_37 ?_
    refine lv_iload_n hx hb dX9_move_40 rfl (lv_at hl 2 rfl) ?_
    refine va_iald (f := fv 11) (n := 70) hx hb hK hP 9 8 rfl rfl (vp_in_nI (n := j_17) (by omega) (by omega)) dX9_move_41 ?_
    refine lv_topi (fun z_29 hz_30 => ?_)
    rw [nI_clamp (n := j_17) (by omega)] at hz_30
    obtain rfl : z_29 = fv 11 j_17 := hz_30
    refine lv_aload_n hx hb dX9_move_42 rfl (lv_at hl 0 rfl) ?_
    refine lv_iload_n hx hb dX9_move_43 rfl (lv_at hl 2 rfl) ?_
    refine vp_callSi (W.runV (As := [.int (nI j_17)]) (rest := [.int (fv 11 j_17), .int a3]) ⟨hx, hb, hml, hown, hts⟩ (m_all l D h0 ad cs iv fv gv n3 j_17 h3 (by omega) (by omega)) (cwV 1 hts gX9_move_X9_all rfl rfl rfl (by decide +kernel) ⟨Nat.le_of_ble_eq_true rfl, Nat.le_of_ble_eq_true rfl⟩) ⟨fun a U g mk q => ⟨q.1, q.2.1, va_K.moved (u := U) (U := U.calling g mk a) (Vm.Alike.refl U.vm) q.2.2⟩, va_recv hK hP (ci := 9) (q0 := 0) rfl rfl, fun U hU hW => ⟨rfl, by rw [hU]; exact hP, va_K.moved hW.alike hK⟩⟩ rfl rfl hl.1 rfl (lv_room (Nat.le_of_ble_eq_true rfl)) dX9_move_44 ⟨Nat.le_of_ble_eq_true rfl, Nat.le_of_ble_eq_true rfl⟩) (fun r_31 k_32 => ?_)
    have k_33 : r_31 = mall (fv 9) j_17 n3 := k_32
    refine lv_isub hx hb dX9_move_47 ?_
    refine lv_icmp_le (tgt := 54) hx hb dX9_move_48 (by decide) (fun c_34 => ?_) (fun c_34 => ?_)
    · refine lv_aload_n hx hb dX9_move_54 rfl (lv_at hl 0 rfl) ?_
      refine va_get (D := D) (ci := 9) (v := .ref (ad 10)) (C := RX9) (T := TX9) (N := 44) hx hb hts hin9 hown hK hP 0 rfl rfl 10 (by decide) (hts (.fieldLink RX9 41 "HoneyHouseModel" "heat" "[I") (List.mem_of_getElem? (i := 2) rfl)) (fun _ h9 => h9) rfl dX9_move_55 ?_
      refine lv_iload_n hx hb dX9_move_58 rfl (lv_at hl 1 rfl) ?_
      refine va_iald (f := fv 10) (n := 70) hx hb hK hP 8 7 rfl rfl (vp_in_nI (n := j_7) (by omega) (by omega)) dX9_move_59 ?_
      refine lv_topi (fun z_35 hz_36 => ?_)
      rw [nI_clamp (n := j_7) (by omega)] at hz_36
      obtain rfl : z_35 = fv 10 j_7 := hz_36
      refine lv_istore (lv' := [(4, .int (fv 10 j_7)), (0, .ref h0), (1, .int (nI j_7)), (2, .int (nI j_17)), (3, .int a3)]) hx hb dX9_move_60 hl (by decide) rfl (fun ls hl => ?_)
      refine lv_aload_n hx hb dX9_move_62 rfl (lv_at hl 1 rfl) ?_
      refine va_get (D := D) (ci := 9) (v := .ref (ad 10)) (C := RX9) (T := TX9) (N := 44) hx hb hts hin9 hown hK hP 0 rfl rfl 10 (by decide) (hts (.fieldLink RX9 41 "HoneyHouseModel" "heat" "[I") (List.mem_of_getElem? (i := 2) rfl)) (fun _ h9 => h9) rfl dX9_move_63 ?_
      refine lv_iload_n hx hb dX9_move_66 rfl (lv_at hl 3 rfl) ?_
      refine lv_aload_n hx hb dX9_move_67 rfl (lv_at hl 1 rfl) ?_
      refine lv_iload_n hx hb dX9_move_68 rfl (lv_at hl 3 rfl) ?_
      refine vp_callSi (W.runV (As := [.int (nI j_17)]) (rest := [.int (nI j_17), .ref (ad 10)]) ⟨hx, hb, hml, hown, hts⟩ (m_all l D h0 ad cs iv fv gv n3 j_17 h3 (by omega) (by omega)) (cwV 1 hts gX9_move_X9_all rfl rfl rfl (by decide +kernel) ⟨Nat.le_of_ble_eq_true rfl, Nat.le_of_ble_eq_true rfl⟩) ⟨fun a U g mk q => ⟨q.1, q.2.1, va_K.moved (u := U) (U := U.calling g mk a) (Vm.Alike.refl U.vm) q.2.2⟩, va_recv hK hP (ci := 9) (q0 := 0) rfl rfl, fun U hU hW => ⟨rfl, by rw [hU]; exact hP, va_K.moved hW.alike hK⟩⟩ rfl rfl hl.1 rfl (lv_room (Nat.le_of_ble_eq_true rfl)) dX9_move_69 ⟨Nat.le_of_ble_eq_true rfl, Nat.le_of_ble_eq_true rfl⟩) (fun r_37 k_38 => ?_)
      have k_39 : r_37 = mall (fv 9) j_17 n3 := k_38
      refine lv_if_eq (tgt := 86) hx hb dX9_move_72 (by decide) (fun c_40 => ?_) (fun c_40 => ?_)
      · refine lv_iload hx hb dX9_move_86 (lv_at hl 0 rfl) ?_
        refine lv_goto (tgt := 97) hx hb dX9_move_88 (by decide) ?_
        refine va_iast (f := fv 10) (n := 70) hx hb hK hP hD hS 8 7 rfl rfl (vp_in_nI (n := j_17) (by omega) (by omega)) dX9_move_97 (fun H locs hP hD hS => ?_)
        have hP : va_P D vwCl (mw h0 ad cs iv (uF fv 10 (upd (fv 10) (nI j_17).toNatClampNeg (fv 10 j_7))) gv) H := hP
        have hD : va_D A (mw h0 ad cs iv (uF fv 10 (upd (fv 10) (nI j_17).toNatClampNeg (fv 10 j_7))) gv) := hD
        obtain ⟨f_41, hf_42⟩ : ∃ g9, g9 = upd (fv 10) (nI j_17).toNatClampNeg (fv 10 j_7) := ⟨_, rfl⟩
        rw [← hf_42] at hP hD
        rw [nI_clamp (n := j_17) (by omega)] at hf_42
        have hh_43 : f_41 = upd (fv 10) j_17 (if mall (fv 9) j_17 40 = 0 then fv 10 j_7 else if fv 10 j_17 < fv 10 j_7 then fv 10 j_7 else fv 10 j_17) := by rw [if_pos (by rw [← nv_all hV b3 j_17 (by omega), ← k_39]; exact c_40)]; exact hf_42
        refine lv_aload_n hx hb dX9_move_98 rfl (lv_at hl 1 rfl) ?_
        refine lv_iload_n hx hb dX9_move_99 rfl (lv_at hl 2 rfl) ?_
        refine lv_iload_n hx hb dX9_move_100 rfl (lv_at hl 4 rfl) ?_
        obtain ⟨G9, u8, X9, S9, L9, ex9, hX1, hXS, hS9, -, -, -, hm9, hmn, hn9, -, hL9, hu9, -, hz8, -, hl9, hr9⟩ := nv_draw hV b3 (t := j_7) (x := a3) (by omega) c_23 c2_28
        have hd9 := nv_drA hV b3 (t := j_7) (x := a3) (by omega) c_23 c2_28
        have hz9 : ∀ i9 : Nat, n3 ≤ i9 → i9 < 40 → drW (fv 9) j_7 a3 i9 = 0 := fun i9 h1 h2 => by rw [hu9 i9 h2, hz8 i9 h1 h2, nI_0]
        have hFc := free_all hD hS hA
        refine va_callv (va_runV (As := [.int (nI j_7), .int a3]) (rest := []) ⟨hx, hb, hml, hown, hts⟩ (m_draw l D h0 ad cs iv (uF fv 10 f_41) gv n3 j_7 S9 L9 a3 H.size h3 (by omega) (by omega) hmn hm9 ⟨by omega, by omega⟩ hn9 hl9 hL9 hr9 hz9 hd9) (cwV 2 hts gX9_move_X9_draw rfl rfl rfl (by decide +kernel) ⟨Nat.le_of_ble_eq_true rfl, Nat.le_of_ble_eq_true rfl⟩) ⟨fun a U g mk q => by obtain ⟨q0, q1, qP, qK, qD⟩ := q; exact ⟨q0, q1, qP, va_K.moved (u := U) (U := U.calling g mk a) (Vm.Alike.refl U.vm) qK, qD⟩, va_recv hK hP (ci := 9) (q0 := 0) rfl rfl, fun U hU hW => ⟨rfl, by rw [hU], by rw [hU]; exact hP, va_K.moved hW.alike hK, hD.weaken (fun _ _ _ _ => trivial)⟩⟩ rfl rfl hl.1 rfl (lv_room (Nat.le_of_ble_eq_true rfl)) dX9_move_101 ⟨Nat.le_of_ble_eq_true rfl, Nat.le_of_ble_eq_true rfl⟩) hS (fun q _ h => hFc q h) hFc (fun u t H1 locs ht hvm w_45 hB hz1 hk1 hS => ?_)
        obtain ⟨f9_46, f10_47, f23_48, g24_49, q_50, q_51, q_52, hP1, hK1, hD1⟩ := hB
        replace q_50 : f9_46 = drF ((fv 9)) j_7 a3 := q_50
        replace q_51 : f10_47 = upd ((f_41)) j_7 (if drA ((fv 9)) j_7 a3 = 0 then 0 else (f_41) j_7) := q_51
        replace q_52 : ∀ i9 : Nat, i9 < n3 → f23_48 i9 = drW ((fv 9)) j_7 a3 i9 := q_52
        rw [ht] at hP1
        have hK := va_K.moved hvm.symm hK1
        generalize H1 = H at hP1 hS ⊢
        have hP : va_P D vwCl (mw h0 ad cs iv (uF (uF (uF fv 9 f9_46) 10 f10_47) 23 f23_48) g24_49) H := hP1
        have hD : va_D A (mw h0 ad cs iv (uF (uF (uF fv 9 f9_46) 10 f10_47) 23 f23_48) g24_49) := hD1.weaken (fun _ _ _ h => hFc _ h)
        refine lv_iconst (v := 0) hx hb dX9_move_104 (by decide) ?_
        refine lv_istore (lv' := [(5, .int 0), (4, .int (fv 10 j_7)), (0, .ref h0), (1, .int (nI j_7)), (2, .int (nI j_17)), (3, .int a3)]) hx hb dX9_move_105 hl (by decide) rfl (fun ls hl => ?_)
        refine lp_V (nL := 6) (σ := Nat × (Nat → Int32)) (lv := fun x9 => [(5, .int (nI x9.1)), (2, .int (nI j_17)), (1, .int (nI j_7)), (0, .ref h0)]) (μ := fun x9 => n3 - x9.1) (J := fun x9 ws9 => ws9 = (mw h0 ad cs iv (uF (uF (uF fv 9 x9.2) 10 f10_47) 23 f23_48) g24_49) ∧ (x9.1 ≤ n3) ∧ (∀ i9 : Nat, i9 < x9.1 → x9.2 (40 * j_17 + i9) = f9_46 (40 * j_17 + i9) + f23_48 i9) ∧ (∀ r9 i9 : Nat, i9 < 40 → r9 ≠ j_17 ∨ x9.1 ≤ i9 → x9.2 (40 * r9 + i9) = f9_46 (40 * r9 + i9))) (fun x9 ws9 H locs ls hj hP hD hS hl ih_53 => ?_) (0, f9_46) (mw h0 ad cs iv (uF (uF (uF fv 9 f9_46) 10 f10_47) 23 f23_48) g24_49) _ _ ls ⟨rfl, (show 0 ≤ n3 from by omega), (show ∀ i9 : Nat, i9 < 0 → f9_46 (40 * j_17 + i9) = f9_46 (40 * j_17 + i9) + f23_48 i9 from fun i9 h9 => absurd h9 (by omega)), (show ∀ r9 i9 : Nat, i9 < 40 → r9 ≠ j_17 ∨ 0 ≤ i9 → f9_46 (40 * r9 + i9) = f9_46 (40 * r9 + i9) from fun _ _ _ _ => rfl)⟩ hP hD hS (lv_sub hl [0, 4, 3, 2] rfl)
        obtain ⟨i_54, f9_55⟩ := x9
        replace hj : ws9 = (mw h0 ad cs iv (uF (uF (uF fv 9 f9_55) 10 f10_47) 23 f23_48) g24_49) ∧ (i_54 ≤ n3) ∧ (∀ i9 : Nat, i9 < i_54 → f9_55 (40 * j_17 + i9) = f9_46 (40 * j_17 + i9) + f23_48 i9) ∧ (∀ r9 i9 : Nat, i9 < 40 → r9 ≠ j_17 ∨ i_54 ≤ i9 → f9_55 (40 * r9 + i9) = f9_46 (40 * r9 + i9)) := hj
        obtain ⟨rfl, hi_56, h1_57, h2_58⟩ := hj
        have hl : lv_has ls 6 [(5, .int (nI i_54)), (2, .int (nI j_17)), (1, .int (nI j_7)), (0, .ref h0)] := hl
        refine lv_iload hx hb dX9_move_107 (lv_at hl 0 rfl) ?_
        refine lv_aload_n hx hb dX9_move_109 rfl (lv_at hl 3 rfl) ?_
        refine va_get (D := D) (ci := 9) (v := .int (iv 3)) (C := RX9) (T := TX9) (N := 44) hx hb hts hin9 hown hK hP 0 rfl rfl 3 (by decide) (hts (.fieldLink RX9 20 "HoneyHouseModel" "lots" "I") (List.mem_of_getElem? (i := 3) rfl)) (fun _ h9 => h9) rfl dX9_move_110 ?_
        refine tp_i (y := nI n3) (h3) ?_
        refine lv_icmp_ge (tgt := 144) hx hb dX9_move_113 (by decide) (fun c_59 => ?_) (fun c_59 => ?_)
        · have d_60 := n_le (a := n3) (b := i_54) (by omega) (by omega) c_59
          have e9_61 : f9_55 = rwA (drF (fv 9) j_7 a3) j_17 (drW (fv 9) j_7 a3) := by rw [← q_50]; exact ad_row (n := n3) (fun i9 h9 => h1_57 i9 (by omega)) (fun r9 i9 h8 h9 => h2_58 r9 i9 h8 (by omega)) q_52 hz9
          refine lv_aload_n hx hb dX9_move_144 rfl (lv_at hl 3 rfl) ?_
          refine lv_iload_n hx hb dX9_move_145 rfl (lv_at hl 2 rfl) ?_
          refine vp_callSi (W.runV (As := [.int (nI j_7)]) (rest := []) ⟨hx, hb, hml, hown, hts⟩ (m_all l D h0 ad cs iv (uF (uF (uF fv 9 f9_55) 10 f10_47) 23 f23_48) g24_49 n3 j_7 h3 (by omega) (by omega)) (cwV 1 hts gX9_move_X9_all rfl rfl rfl (by decide +kernel) ⟨Nat.le_of_ble_eq_true rfl, Nat.le_of_ble_eq_true rfl⟩) ⟨fun a U g mk q => ⟨q.1, q.2.1, va_K.moved (u := U) (U := U.calling g mk a) (Vm.Alike.refl U.vm) q.2.2⟩, va_recv hK hP (ci := 9) (q0 := 0) rfl rfl, fun U hU hW => ⟨rfl, by rw [hU]; exact hP, va_K.moved hW.alike hK⟩⟩ rfl rfl hl.1 rfl (lv_room (Nat.le_of_ble_eq_true rfl)) dX9_move_146 ⟨Nat.le_of_ble_eq_true rfl, Nat.le_of_ble_eq_true rfl⟩) (fun r_62 k_63 => ?_)
          have k_64 : r_62 = mall f9_55 j_7 n3 := k_63
          have hP : va_P D vwCl (mw h0 ad cs iv (uF (uF (uF fv 9 f9_55) 10 f10_47) 23 f23_48) g24_49) H := hP
          have hD : va_D A (mw h0 ad cs iv (uF (uF (uF fv 9 f9_55) 10 f10_47) 23 f23_48) g24_49) := hD
          exact W.iret (v := r_62) hx hb hr (fun t ht hW => ⟨⟨r_62, r_62, rfl, rfl, f9_55, f10_47, f23_48, g24_49, Or.inr ⟨(fun h9 => Or.elim h9 (fun h => Or.elim h (fun h => Or.elim h a_4 b_5) (fun h => Or.elim h (fun h => Or.elim h a_14 b_15) c_21)) (fun h9 => Or.elim h9 (fun h9 => Or.elim h9 c_23 (fun h9 => c2_28 (by rw [nI_clamp (n := j_7) (by omega)] at h9; exact h9))) (fun h9 => i_le_n c_34 (by rw [nI_clamp (n := j_17) (by omega), ← nv_all hV b3 j_17 (by omega), ← k_33] at h9; exact h9)))), by rw [nI_clamp (n := j_7) (by omega), ← hd9]; exact k_64.trans (by rw [e9_61]; exact mall_cg n3 (fun i9 h9 => rwA_out (by omega) (by omega))), by rw [nI_clamp (n := j_7) (by omega), nI_clamp (n := j_17) (by omega)]; exact e9_61, by rw [nI_clamp (n := j_7) (by omega), nI_clamp (n := j_17) (by omega), movH, ← hh_43, q_51, hh_43, upd_n (show j_7 ≠ j_17 by omega)]⟩, by rw [ht]; exact hP, va_K.moved hW.alike hK, hD⟩, hS.F ht⟩) hS.2.2 dX9_move_149
        have d_65 := n_nle (a := n3) (b := i_54) (by omega) (by omega) c_59
        refine lv_aload_n hx hb dX9_move_116 rfl (lv_at hl 3 rfl) ?_
        refine va_get (D := D) (ci := 9) (v := .ref (ad 9)) (C := RX9) (T := TX9) (N := 44) hx hb hts hin9 hown hK hP 0 rfl rfl 9 (by decide) (hts (.fieldLink RX9 38 "HoneyHouseModel" "grams" "[I") (List.mem_of_getElem? (i := 4) rfl)) (fun _ h9 => h9) rfl dX9_move_117 ?_
        refine lv_bipush (v := 40) hx hb dX9_move_120 (by decide) ?_
        refine lv_iload_n hx hb dX9_move_122 rfl (lv_at hl 1 rfl) ?_
        refine lv_imul hx hb dX9_move_123 ?_
        refine tp_i (y := nI (40 * j_17)) (pk_mul 40 j_17) ?_
        refine lv_iload hx hb dX9_move_124 (lv_at hl 0 rfl) ?_
        refine lv_iadd hx hb dX9_move_126 ?_
        refine tp_i (y := nI ((40 * j_17) + i_54)) (nI_add (40 * j_17) i_54) ?_
        refine lv_dup2_11 hx hb dX9_move_127 rfl rfl ?_
        refine va_iald (f := f9_55) (n := 2800) hx hb hK hP 7 6 rfl rfl (vp_in_nI (n := (40 * j_17) + i_54) (by omega) (by omega)) dX9_move_128 ?_
        refine lv_topi (fun z_66 hz_67 => ?_)
        rw [nI_clamp (n := (40 * j_17) + i_54) (by omega)] at hz_67
        obtain rfl : z_66 = f9_55 ((40 * j_17) + i_54) := hz_67
        refine lv_aload_n hx hb dX9_move_129 rfl (lv_at hl 3 rfl) ?_
        refine va_get (D := D) (ci := 9) (v := .ref (ad 23)) (C := RX9) (T := TX9) (N := 44) hx hb hts hin9 hown hK hP 0 rfl rfl 23 (by decide) (hts (.fieldLink RX9 80 "HoneyHouseModel" "drawn" "[I") (List.mem_of_getElem? (i := 5) rfl)) (fun _ h9 => h9) rfl dX9_move_130 ?_
        refine lv_iload hx hb dX9_move_133 (lv_at hl 0 rfl) ?_
        refine va_iald (f := f23_48) (n := 40) hx hb hK hP 17 16 rfl rfl (vp_in_nI (n := i_54) (by omega) (by omega)) dX9_move_135 ?_
        refine lv_topi (fun z_68 hz_69 => ?_)
        rw [nI_clamp (n := i_54) (by omega)] at hz_69
        obtain rfl : z_68 = f23_48 i_54 := hz_69
        refine lv_iadd hx hb dX9_move_136 ?_
        refine va_iast (f := f9_55) (n := 2800) hx hb hK hP hD hS 7 6 rfl rfl (vp_in_nI (n := (40 * j_17) + i_54) (by omega) (by omega)) dX9_move_137 (fun H locs hP hD hS => ?_)
        have hP : va_P D vwCl (mw h0 ad cs iv (uF (uF (uF fv 9 (upd f9_55 (nI ((40 * j_17) + i_54)).toNatClampNeg ((f9_55 ((40 * j_17) + i_54)) + (f23_48 i_54)))) 10 f10_47) 23 f23_48) g24_49) H := hP
        have hD : va_D A (mw h0 ad cs iv (uF (uF (uF fv 9 (upd f9_55 (nI ((40 * j_17) + i_54)).toNatClampNeg ((f9_55 ((40 * j_17) + i_54)) + (f23_48 i_54)))) 10 f10_47) 23 f23_48) g24_49) := hD
        obtain ⟨f_70, hf_71⟩ : ∃ g9, g9 = upd f9_55 (nI ((40 * j_17) + i_54)).toNatClampNeg ((f9_55 ((40 * j_17) + i_54)) + (f23_48 i_54)) := ⟨_, rfl⟩
        rw [← hf_71] at hP hD
        rw [nI_clamp (n := (40 * j_17) + i_54) (by omega)] at hf_71
        refine lv_iinc (v := nI (i_54 + 1)) (lv' := [(5, .int (nI (i_54 + 1))), (2, .int (nI j_17)), (1, .int (nI j_7)), (0, .ref h0)]) hx hb dX9_move_138 hl (k := 0) rfl (nI_add i_54 1) (by decide) rfl (fun ls hl => ?_)
        refine lv_goto (tgt := 107) hx hb dX9_move_141 (by decide) ?_
        exact ih_53 (i_54 + 1, f_70) (mw h0 ad cs iv (uF (uF (uF fv 9 f_70) 10 f10_47) 23 f23_48) g24_49) _ _ ls (by show n3 - (i_54 + 1) < n3 - i_54; omega) ⟨rfl, (show (i_54 + 1) ≤ n3 from by omega), (show ∀ i9 : Nat, i9 < (i_54 + 1) → f_70 (40 * j_17 + i9) = f9_46 (40 * j_17 + i9) + f23_48 i9 from fun i9 h9 => by rw [hf_71]; rcases Nat.decEq i9 i_54 with q | q; (rw [upd_n (by omega)]; exact h1_57 i9 (by omega)); (rw [q, upd_s, h2_58 j_17 i_54 (by omega) (Or.inr (by omega))])), (show ∀ r9 i9 : Nat, i9 < 40 → r9 ≠ j_17 ∨ (i_54 + 1) ≤ i9 → f_70 (40 * r9 + i9) = f9_46 (40 * r9 + i9) from fun r9 i9 h8 h9 => by rw [hf_71, upd_n (by omega)]; exact h2_58 r9 i9 h8 (by omega))⟩ hP hD hS (lv_sub hl [0, 1, 2, 3] rfl)
      refine lv_iload hx hb dX9_move_75 (lv_at hl 0 rfl) ?_
      refine lv_aload_n hx hb dX9_move_77 rfl (lv_at hl 1 rfl) ?_
      refine va_get (D := D) (ci := 9) (v := .ref (ad 10)) (C := RX9) (T := TX9) (N := 44) hx hb hts hin9 hown hK hP 0 rfl rfl 10 (by decide) (hts (.fieldLink RX9 41 "HoneyHouseModel" "heat" "[I") (List.mem_of_getElem? (i := 2) rfl)) (fun _ h9 => h9) rfl dX9_move_78 ?_
      refine lv_iload_n hx hb dX9_move_81 rfl (lv_at hl 3 rfl) ?_
      refine va_iald (f := fv 10) (n := 70) hx hb hK hP 8 7 rfl rfl (vp_in_nI (n := j_17) (by omega) (by omega)) dX9_move_82 ?_
      refine lv_topi (fun z_72 hz_73 => ?_)
      rw [nI_clamp (n := j_17) (by omega)] at hz_73
      obtain rfl : z_72 = fv 10 j_17 := hz_73
      refine lv_icmp_le (tgt := 91) hx hb dX9_move_83 (by decide) (fun c_74 => ?_) (fun c_74 => ?_)
      · refine lv_aload_n hx hb dX9_move_91 rfl (lv_at hl 1 rfl) ?_
        refine va_get (D := D) (ci := 9) (v := .ref (ad 10)) (C := RX9) (T := TX9) (N := 44) hx hb hts hin9 hown hK hP 0 rfl rfl 10 (by decide) (hts (.fieldLink RX9 41 "HoneyHouseModel" "heat" "[I") (List.mem_of_getElem? (i := 2) rfl)) (fun _ h9 => h9) rfl dX9_move_92 ?_
        refine lv_iload_n hx hb dX9_move_95 rfl (lv_at hl 3 rfl) ?_
        refine va_iald (f := fv 10) (n := 70) hx hb hK hP 8 7 rfl rfl (vp_in_nI (n := j_17) (by omega) (by omega)) dX9_move_96 ?_
        refine lv_topi (fun z_75 hz_76 => ?_)
        rw [nI_clamp (n := j_17) (by omega)] at hz_76
        obtain rfl : z_75 = fv 10 j_17 := hz_76
        refine va_iast (f := fv 10) (n := 70) hx hb hK hP hD hS 8 7 rfl rfl (vp_in_nI (n := j_17) (by omega) (by omega)) dX9_move_97 (fun H locs hP hD hS => ?_)
        have hP : va_P D vwCl (mw h0 ad cs iv (uF fv 10 (upd (fv 10) (nI j_17).toNatClampNeg (fv 10 j_17))) gv) H := hP
        have hD : va_D A (mw h0 ad cs iv (uF fv 10 (upd (fv 10) (nI j_17).toNatClampNeg (fv 10 j_17))) gv) := hD
        obtain ⟨f_77, hf_78⟩ : ∃ g9, g9 = upd (fv 10) (nI j_17).toNatClampNeg (fv 10 j_17) := ⟨_, rfl⟩
        rw [← hf_78] at hP hD
        rw [nI_clamp (n := j_17) (by omega)] at hf_78
        have hh_79 : f_77 = upd (fv 10) j_17 (if mall (fv 9) j_17 40 = 0 then fv 10 j_7 else if fv 10 j_17 < fv 10 j_7 then fv 10 j_7 else fv 10 j_17) := by rw [if_neg (by rw [← nv_all hV b3 j_17 (by omega), ← k_39]; exact c_40), if_neg (i_le_n c_74)]; exact hf_78
        refine lv_aload_n hx hb dX9_move_98 rfl (lv_at hl 1 rfl) ?_
        refine lv_iload_n hx hb dX9_move_99 rfl (lv_at hl 2 rfl) ?_
        refine lv_iload_n hx hb dX9_move_100 rfl (lv_at hl 4 rfl) ?_
        obtain ⟨G9, u8, X9, S9, L9, ex9, hX1, hXS, hS9, -, -, -, hm9, hmn, hn9, -, hL9, hu9, -, hz8, -, hl9, hr9⟩ := nv_draw hV b3 (t := j_7) (x := a3) (by omega) c_23 c2_28
        have hd9 := nv_drA hV b3 (t := j_7) (x := a3) (by omega) c_23 c2_28
        have hz9 : ∀ i9 : Nat, n3 ≤ i9 → i9 < 40 → drW (fv 9) j_7 a3 i9 = 0 := fun i9 h1 h2 => by rw [hu9 i9 h2, hz8 i9 h1 h2, nI_0]
        have hFc := free_all hD hS hA
        refine va_callv (va_runV (As := [.int (nI j_7), .int a3]) (rest := []) ⟨hx, hb, hml, hown, hts⟩ (m_draw l D h0 ad cs iv (uF fv 10 f_77) gv n3 j_7 S9 L9 a3 H.size h3 (by omega) (by omega) hmn hm9 ⟨by omega, by omega⟩ hn9 hl9 hL9 hr9 hz9 hd9) (cwV 2 hts gX9_move_X9_draw rfl rfl rfl (by decide +kernel) ⟨Nat.le_of_ble_eq_true rfl, Nat.le_of_ble_eq_true rfl⟩) ⟨fun a U g mk q => by obtain ⟨q0, q1, qP, qK, qD⟩ := q; exact ⟨q0, q1, qP, va_K.moved (u := U) (U := U.calling g mk a) (Vm.Alike.refl U.vm) qK, qD⟩, va_recv hK hP (ci := 9) (q0 := 0) rfl rfl, fun U hU hW => ⟨rfl, by rw [hU], by rw [hU]; exact hP, va_K.moved hW.alike hK, hD.weaken (fun _ _ _ _ => trivial)⟩⟩ rfl rfl hl.1 rfl (lv_room (Nat.le_of_ble_eq_true rfl)) dX9_move_101 ⟨Nat.le_of_ble_eq_true rfl, Nat.le_of_ble_eq_true rfl⟩) hS (fun q _ h => hFc q h) hFc (fun u t H1 locs ht hvm w_81 hB hz1 hk1 hS => ?_)
        obtain ⟨f9_82, f10_83, f23_84, g24_85, q_86, q_87, q_88, hP1, hK1, hD1⟩ := hB
        replace q_86 : f9_82 = drF ((fv 9)) j_7 a3 := q_86
        replace q_87 : f10_83 = upd ((f_77)) j_7 (if drA ((fv 9)) j_7 a3 = 0 then 0 else (f_77) j_7) := q_87
        replace q_88 : ∀ i9 : Nat, i9 < n3 → f23_84 i9 = drW ((fv 9)) j_7 a3 i9 := q_88
        rw [ht] at hP1
        have hK := va_K.moved hvm.symm hK1
        generalize H1 = H at hP1 hS ⊢
        have hP : va_P D vwCl (mw h0 ad cs iv (uF (uF (uF fv 9 f9_82) 10 f10_83) 23 f23_84) g24_85) H := hP1
        have hD : va_D A (mw h0 ad cs iv (uF (uF (uF fv 9 f9_82) 10 f10_83) 23 f23_84) g24_85) := hD1.weaken (fun _ _ _ h => hFc _ h)
        refine lv_iconst (v := 0) hx hb dX9_move_104 (by decide) ?_
        refine lv_istore (lv' := [(5, .int 0), (4, .int (fv 10 j_7)), (0, .ref h0), (1, .int (nI j_7)), (2, .int (nI j_17)), (3, .int a3)]) hx hb dX9_move_105 hl (by decide) rfl (fun ls hl => ?_)
        refine lp_V (nL := 6) (σ := Nat × (Nat → Int32)) (lv := fun x9 => [(5, .int (nI x9.1)), (2, .int (nI j_17)), (1, .int (nI j_7)), (0, .ref h0)]) (μ := fun x9 => n3 - x9.1) (J := fun x9 ws9 => ws9 = (mw h0 ad cs iv (uF (uF (uF fv 9 x9.2) 10 f10_83) 23 f23_84) g24_85) ∧ (x9.1 ≤ n3) ∧ (∀ i9 : Nat, i9 < x9.1 → x9.2 (40 * j_17 + i9) = f9_82 (40 * j_17 + i9) + f23_84 i9) ∧ (∀ r9 i9 : Nat, i9 < 40 → r9 ≠ j_17 ∨ x9.1 ≤ i9 → x9.2 (40 * r9 + i9) = f9_82 (40 * r9 + i9))) (fun x9 ws9 H locs ls hj hP hD hS hl ih_89 => ?_) (0, f9_82) (mw h0 ad cs iv (uF (uF (uF fv 9 f9_82) 10 f10_83) 23 f23_84) g24_85) _ _ ls ⟨rfl, (show 0 ≤ n3 from by omega), (show ∀ i9 : Nat, i9 < 0 → f9_82 (40 * j_17 + i9) = f9_82 (40 * j_17 + i9) + f23_84 i9 from fun i9 h9 => absurd h9 (by omega)), (show ∀ r9 i9 : Nat, i9 < 40 → r9 ≠ j_17 ∨ 0 ≤ i9 → f9_82 (40 * r9 + i9) = f9_82 (40 * r9 + i9) from fun _ _ _ _ => rfl)⟩ hP hD hS (lv_sub hl [0, 4, 3, 2] rfl)
        obtain ⟨i_90, f9_91⟩ := x9
        replace hj : ws9 = (mw h0 ad cs iv (uF (uF (uF fv 9 f9_91) 10 f10_83) 23 f23_84) g24_85) ∧ (i_90 ≤ n3) ∧ (∀ i9 : Nat, i9 < i_90 → f9_91 (40 * j_17 + i9) = f9_82 (40 * j_17 + i9) + f23_84 i9) ∧ (∀ r9 i9 : Nat, i9 < 40 → r9 ≠ j_17 ∨ i_90 ≤ i9 → f9_91 (40 * r9 + i9) = f9_82 (40 * r9 + i9)) := hj
        obtain ⟨rfl, hi_92, h1_93, h2_94⟩ := hj
        have hl : lv_has ls 6 [(5, .int (nI i_90)), (2, .int (nI j_17)), (1, .int (nI j_7)), (0, .ref h0)] := hl
        refine lv_iload hx hb dX9_move_107 (lv_at hl 0 rfl) ?_
        refine lv_aload_n hx hb dX9_move_109 rfl (lv_at hl 3 rfl) ?_
        refine va_get (D := D) (ci := 9) (v := .int (iv 3)) (C := RX9) (T := TX9) (N := 44) hx hb hts hin9 hown hK hP 0 rfl rfl 3 (by decide) (hts (.fieldLink RX9 20 "HoneyHouseModel" "lots" "I") (List.mem_of_getElem? (i := 3) rfl)) (fun _ h9 => h9) rfl dX9_move_110 ?_
        refine tp_i (y := nI n3) (h3) ?_
        refine lv_icmp_ge (tgt := 144) hx hb dX9_move_113 (by decide) (fun c_95 => ?_) (fun c_95 => ?_)
        · have d_96 := n_le (a := n3) (b := i_90) (by omega) (by omega) c_95
          have e9_97 : f9_91 = rwA (drF (fv 9) j_7 a3) j_17 (drW (fv 9) j_7 a3) := by rw [← q_86]; exact ad_row (n := n3) (fun i9 h9 => h1_93 i9 (by omega)) (fun r9 i9 h8 h9 => h2_94 r9 i9 h8 (by omega)) q_88 hz9
          refine lv_aload_n hx hb dX9_move_144 rfl (lv_at hl 3 rfl) ?_
          refine lv_iload_n hx hb dX9_move_145 rfl (lv_at hl 2 rfl) ?_
          refine vp_callSi (W.runV (As := [.int (nI j_7)]) (rest := []) ⟨hx, hb, hml, hown, hts⟩ (m_all l D h0 ad cs iv (uF (uF (uF fv 9 f9_91) 10 f10_83) 23 f23_84) g24_85 n3 j_7 h3 (by omega) (by omega)) (cwV 1 hts gX9_move_X9_all rfl rfl rfl (by decide +kernel) ⟨Nat.le_of_ble_eq_true rfl, Nat.le_of_ble_eq_true rfl⟩) ⟨fun a U g mk q => ⟨q.1, q.2.1, va_K.moved (u := U) (U := U.calling g mk a) (Vm.Alike.refl U.vm) q.2.2⟩, va_recv hK hP (ci := 9) (q0 := 0) rfl rfl, fun U hU hW => ⟨rfl, by rw [hU]; exact hP, va_K.moved hW.alike hK⟩⟩ rfl rfl hl.1 rfl (lv_room (Nat.le_of_ble_eq_true rfl)) dX9_move_146 ⟨Nat.le_of_ble_eq_true rfl, Nat.le_of_ble_eq_true rfl⟩) (fun r_98 k_99 => ?_)
          have k_100 : r_98 = mall f9_91 j_7 n3 := k_99
          have hP : va_P D vwCl (mw h0 ad cs iv (uF (uF (uF fv 9 f9_91) 10 f10_83) 23 f23_84) g24_85) H := hP
          have hD : va_D A (mw h0 ad cs iv (uF (uF (uF fv 9 f9_91) 10 f10_83) 23 f23_84) g24_85) := hD
          exact W.iret (v := r_98) hx hb hr (fun t ht hW => ⟨⟨r_98, r_98, rfl, rfl, f9_91, f10_83, f23_84, g24_85, Or.inr ⟨(fun h9 => Or.elim h9 (fun h => Or.elim h (fun h => Or.elim h a_4 b_5) (fun h => Or.elim h (fun h => Or.elim h a_14 b_15) c_21)) (fun h9 => Or.elim h9 (fun h9 => Or.elim h9 c_23 (fun h9 => c2_28 (by rw [nI_clamp (n := j_7) (by omega)] at h9; exact h9))) (fun h9 => i_le_n c_34 (by rw [nI_clamp (n := j_17) (by omega), ← nv_all hV b3 j_17 (by omega), ← k_33] at h9; exact h9)))), by rw [nI_clamp (n := j_7) (by omega), ← hd9]; exact k_100.trans (by rw [e9_97]; exact mall_cg n3 (fun i9 h9 => rwA_out (by omega) (by omega))), by rw [nI_clamp (n := j_7) (by omega), nI_clamp (n := j_17) (by omega)]; exact e9_97, by rw [nI_clamp (n := j_7) (by omega), nI_clamp (n := j_17) (by omega), movH, ← hh_79, q_87, hh_79, upd_n (show j_7 ≠ j_17 by omega)]⟩, by rw [ht]; exact hP, va_K.moved hW.alike hK, hD⟩, hS.F ht⟩) hS.2.2 dX9_move_149
        have d_101 := n_nle (a := n3) (b := i_90) (by omega) (by omega) c_95
        refine lv_aload_n hx hb dX9_move_116 rfl (lv_at hl 3 rfl) ?_
        refine va_get (D := D) (ci := 9) (v := .ref (ad 9)) (C := RX9) (T := TX9) (N := 44) hx hb hts hin9 hown hK hP 0 rfl rfl 9 (by decide) (hts (.fieldLink RX9 38 "HoneyHouseModel" "grams" "[I") (List.mem_of_getElem? (i := 4) rfl)) (fun _ h9 => h9) rfl dX9_move_117 ?_
        refine lv_bipush (v := 40) hx hb dX9_move_120 (by decide) ?_
        refine lv_iload_n hx hb dX9_move_122 rfl (lv_at hl 1 rfl) ?_
        refine lv_imul hx hb dX9_move_123 ?_
        refine tp_i (y := nI (40 * j_17)) (pk_mul 40 j_17) ?_
        refine lv_iload hx hb dX9_move_124 (lv_at hl 0 rfl) ?_
        refine lv_iadd hx hb dX9_move_126 ?_
        refine tp_i (y := nI ((40 * j_17) + i_90)) (nI_add (40 * j_17) i_90) ?_
        refine lv_dup2_11 hx hb dX9_move_127 rfl rfl ?_
        refine va_iald (f := f9_91) (n := 2800) hx hb hK hP 7 6 rfl rfl (vp_in_nI (n := (40 * j_17) + i_90) (by omega) (by omega)) dX9_move_128 ?_
        refine lv_topi (fun z_102 hz_103 => ?_)
        rw [nI_clamp (n := (40 * j_17) + i_90) (by omega)] at hz_103
        obtain rfl : z_102 = f9_91 ((40 * j_17) + i_90) := hz_103
        refine lv_aload_n hx hb dX9_move_129 rfl (lv_at hl 3 rfl) ?_
        refine va_get (D := D) (ci := 9) (v := .ref (ad 23)) (C := RX9) (T := TX9) (N := 44) hx hb hts hin9 hown hK hP 0 rfl rfl 23 (by decide) (hts (.fieldLink RX9 80 "HoneyHouseModel" "drawn" "[I") (List.mem_of_getElem? (i := 5) rfl)) (fun _ h9 => h9) rfl dX9_move_130 ?_
        refine lv_iload hx hb dX9_move_133 (lv_at hl 0 rfl) ?_
        refine va_iald (f := f23_84) (n := 40) hx hb hK hP 17 16 rfl rfl (vp_in_nI (n := i_90) (by omega) (by omega)) dX9_move_135 ?_
        refine lv_topi (fun z_104 hz_105 => ?_)
        rw [nI_clamp (n := i_90) (by omega)] at hz_105
        obtain rfl : z_104 = f23_84 i_90 := hz_105
        refine lv_iadd hx hb dX9_move_136 ?_
        refine va_iast (f := f9_91) (n := 2800) hx hb hK hP hD hS 7 6 rfl rfl (vp_in_nI (n := (40 * j_17) + i_90) (by omega) (by omega)) dX9_move_137 (fun H locs hP hD hS => ?_)
        have hP : va_P D vwCl (mw h0 ad cs iv (uF (uF (uF fv 9 (upd f9_91 (nI ((40 * j_17) + i_90)).toNatClampNeg ((f9_91 ((40 * j_17) + i_90)) + (f23_84 i_90)))) 10 f10_83) 23 f23_84) g24_85) H := hP
        have hD : va_D A (mw h0 ad cs iv (uF (uF (uF fv 9 (upd f9_91 (nI ((40 * j_17) + i_90)).toNatClampNeg ((f9_91 ((40 * j_17) + i_90)) + (f23_84 i_90)))) 10 f10_83) 23 f23_84) g24_85) := hD
        obtain ⟨f_106, hf_107⟩ : ∃ g9, g9 = upd f9_91 (nI ((40 * j_17) + i_90)).toNatClampNeg ((f9_91 ((40 * j_17) + i_90)) + (f23_84 i_90)) := ⟨_, rfl⟩
        rw [← hf_107] at hP hD
        rw [nI_clamp (n := (40 * j_17) + i_90) (by omega)] at hf_107
        refine lv_iinc (v := nI (i_90 + 1)) (lv' := [(5, .int (nI (i_90 + 1))), (2, .int (nI j_17)), (1, .int (nI j_7)), (0, .ref h0)]) hx hb dX9_move_138 hl (k := 0) rfl (nI_add i_90 1) (by decide) rfl (fun ls hl => ?_)
        refine lv_goto (tgt := 107) hx hb dX9_move_141 (by decide) ?_
        exact ih_89 (i_90 + 1, f_106) (mw h0 ad cs iv (uF (uF (uF fv 9 f_106) 10 f10_83) 23 f23_84) g24_85) _ _ ls (by show n3 - (i_90 + 1) < n3 - i_90; omega) ⟨rfl, (show (i_90 + 1) ≤ n3 from by omega), (show ∀ i9 : Nat, i9 < (i_90 + 1) → f_106 (40 * j_17 + i9) = f9_82 (40 * j_17 + i9) + f23_84 i9 from fun i9 h9 => by rw [hf_107]; rcases Nat.decEq i9 i_90 with q | q; (rw [upd_n (by omega)]; exact h1_93 i9 (by omega)); (rw [q, upd_s, h2_94 j_17 i_90 (by omega) (Or.inr (by omega))])), (show ∀ r9 i9 : Nat, i9 < 40 → r9 ≠ j_17 ∨ (i_90 + 1) ≤ i9 → f_106 (40 * r9 + i9) = f9_82 (40 * r9 + i9) from fun r9 i9 h8 h9 => by rw [hf_107, upd_n (by omega)]; exact h2_94 r9 i9 h8 (by omega))⟩ hP hD hS (lv_sub hl [0, 1, 2, 3] rfl)
      refine lv_iload hx hb dX9_move_86 (lv_at hl 0 rfl) ?_
      refine lv_goto (tgt := 97) hx hb dX9_move_88 (by decide) ?_
      refine va_iast (f := fv 10) (n := 70) hx hb hK hP hD hS 8 7 rfl rfl (vp_in_nI (n := j_17) (by omega) (by omega)) dX9_move_97 (fun H locs hP hD hS => ?_)
      have hP : va_P D vwCl (mw h0 ad cs iv (uF fv 10 (upd (fv 10) (nI j_17).toNatClampNeg (fv 10 j_7))) gv) H := hP
      have hD : va_D A (mw h0 ad cs iv (uF fv 10 (upd (fv 10) (nI j_17).toNatClampNeg (fv 10 j_7))) gv) := hD
      obtain ⟨f_108, hf_109⟩ : ∃ g9, g9 = upd (fv 10) (nI j_17).toNatClampNeg (fv 10 j_7) := ⟨_, rfl⟩
      rw [← hf_109] at hP hD
      rw [nI_clamp (n := j_17) (by omega)] at hf_109
      have hh_110 : f_108 = upd (fv 10) j_17 (if mall (fv 9) j_17 40 = 0 then fv 10 j_7 else if fv 10 j_17 < fv 10 j_7 then fv 10 j_7 else fv 10 j_17) := by rw [if_neg (by rw [← nv_all hV b3 j_17 (by omega), ← k_39]; exact c_40), if_pos (i_nle c_74)]; exact hf_109
      refine lv_aload_n hx hb dX9_move_98 rfl (lv_at hl 1 rfl) ?_
      refine lv_iload_n hx hb dX9_move_99 rfl (lv_at hl 2 rfl) ?_
      refine lv_iload_n hx hb dX9_move_100 rfl (lv_at hl 4 rfl) ?_
      obtain ⟨G9, u8, X9, S9, L9, ex9, hX1, hXS, hS9, -, -, -, hm9, hmn, hn9, -, hL9, hu9, -, hz8, -, hl9, hr9⟩ := nv_draw hV b3 (t := j_7) (x := a3) (by omega) c_23 c2_28
      have hd9 := nv_drA hV b3 (t := j_7) (x := a3) (by omega) c_23 c2_28
      have hz9 : ∀ i9 : Nat, n3 ≤ i9 → i9 < 40 → drW (fv 9) j_7 a3 i9 = 0 := fun i9 h1 h2 => by rw [hu9 i9 h2, hz8 i9 h1 h2, nI_0]
      have hFc := free_all hD hS hA
      refine va_callv (va_runV (As := [.int (nI j_7), .int a3]) (rest := []) ⟨hx, hb, hml, hown, hts⟩ (m_draw l D h0 ad cs iv (uF fv 10 f_108) gv n3 j_7 S9 L9 a3 H.size h3 (by omega) (by omega) hmn hm9 ⟨by omega, by omega⟩ hn9 hl9 hL9 hr9 hz9 hd9) (cwV 2 hts gX9_move_X9_draw rfl rfl rfl (by decide +kernel) ⟨Nat.le_of_ble_eq_true rfl, Nat.le_of_ble_eq_true rfl⟩) ⟨fun a U g mk q => by obtain ⟨q0, q1, qP, qK, qD⟩ := q; exact ⟨q0, q1, qP, va_K.moved (u := U) (U := U.calling g mk a) (Vm.Alike.refl U.vm) qK, qD⟩, va_recv hK hP (ci := 9) (q0 := 0) rfl rfl, fun U hU hW => ⟨rfl, by rw [hU], by rw [hU]; exact hP, va_K.moved hW.alike hK, hD.weaken (fun _ _ _ _ => trivial)⟩⟩ rfl rfl hl.1 rfl (lv_room (Nat.le_of_ble_eq_true rfl)) dX9_move_101 ⟨Nat.le_of_ble_eq_true rfl, Nat.le_of_ble_eq_true rfl⟩) hS (fun q _ h => hFc q h) hFc (fun u t H1 locs ht hvm w_112 hB hz1 hk1 hS => ?_)
      obtain ⟨f9_113, f10_114, f23_115, g24_116, q_117, q_118, q_119, hP1, hK1, hD1⟩ := hB
      replace q_117 : f9_113 = drF ((fv 9)) j_7 a3 := q_117
      replace q_118 : f10_114 = upd ((f_108)) j_7 (if drA ((fv 9)) j_7 a3 = 0 then 0 else (f_108) j_7) := q_118
      replace q_119 : ∀ i9 : Nat, i9 < n3 → f23_115 i9 = drW ((fv 9)) j_7 a3 i9 := q_119
      rw [ht] at hP1
      have hK := va_K.moved hvm.symm hK1
      generalize H1 = H at hP1 hS ⊢
      have hP : va_P D vwCl (mw h0 ad cs iv (uF (uF (uF fv 9 f9_113) 10 f10_114) 23 f23_115) g24_116) H := hP1
      have hD : va_D A (mw h0 ad cs iv (uF (uF (uF fv 9 f9_113) 10 f10_114) 23 f23_115) g24_116) := hD1.weaken (fun _ _ _ h => hFc _ h)
      refine lv_iconst (v := 0) hx hb dX9_move_104 (by decide) ?_
      refine lv_istore (lv' := [(5, .int 0), (4, .int (fv 10 j_7)), (0, .ref h0), (1, .int (nI j_7)), (2, .int (nI j_17)), (3, .int a3)]) hx hb dX9_move_105 hl (by decide) rfl (fun ls hl => ?_)
      refine lp_V (nL := 6) (σ := Nat × (Nat → Int32)) (lv := fun x9 => [(5, .int (nI x9.1)), (2, .int (nI j_17)), (1, .int (nI j_7)), (0, .ref h0)]) (μ := fun x9 => n3 - x9.1) (J := fun x9 ws9 => ws9 = (mw h0 ad cs iv (uF (uF (uF fv 9 x9.2) 10 f10_114) 23 f23_115) g24_116) ∧ (x9.1 ≤ n3) ∧ (∀ i9 : Nat, i9 < x9.1 → x9.2 (40 * j_17 + i9) = f9_113 (40 * j_17 + i9) + f23_115 i9) ∧ (∀ r9 i9 : Nat, i9 < 40 → r9 ≠ j_17 ∨ x9.1 ≤ i9 → x9.2 (40 * r9 + i9) = f9_113 (40 * r9 + i9))) (fun x9 ws9 H locs ls hj hP hD hS hl ih_120 => ?_) (0, f9_113) (mw h0 ad cs iv (uF (uF (uF fv 9 f9_113) 10 f10_114) 23 f23_115) g24_116) _ _ ls ⟨rfl, (show 0 ≤ n3 from by omega), (show ∀ i9 : Nat, i9 < 0 → f9_113 (40 * j_17 + i9) = f9_113 (40 * j_17 + i9) + f23_115 i9 from fun i9 h9 => absurd h9 (by omega)), (show ∀ r9 i9 : Nat, i9 < 40 → r9 ≠ j_17 ∨ 0 ≤ i9 → f9_113 (40 * r9 + i9) = f9_113 (40 * r9 + i9) from fun _ _ _ _ => rfl)⟩ hP hD hS (lv_sub hl [0, 4, 3, 2] rfl)
      obtain ⟨i_121, f9_122⟩ := x9
      replace hj : ws9 = (mw h0 ad cs iv (uF (uF (uF fv 9 f9_122) 10 f10_114) 23 f23_115) g24_116) ∧ (i_121 ≤ n3) ∧ (∀ i9 : Nat, i9 < i_121 → f9_122 (40 * j_17 + i9) = f9_113 (40 * j_17 + i9) + f23_115 i9) ∧ (∀ r9 i9 : Nat, i9 < 40 → r9 ≠ j_17 ∨ i_121 ≤ i9 → f9_122 (40 * r9 + i9) = f9_113 (40 * r9 + i9)) := hj
      obtain ⟨rfl, hi_123, h1_124, h2_125⟩ := hj
      have hl : lv_has ls 6 [(5, .int (nI i_121)), (2, .int (nI j_17)), (1, .int (nI j_7)), (0, .ref h0)] := hl
      refine lv_iload hx hb dX9_move_107 (lv_at hl 0 rfl) ?_
      refine lv_aload_n hx hb dX9_move_109 rfl (lv_at hl 3 rfl) ?_
      refine va_get (D := D) (ci := 9) (v := .int (iv 3)) (C := RX9) (T := TX9) (N := 44) hx hb hts hin9 hown hK hP 0 rfl rfl 3 (by decide) (hts (.fieldLink RX9 20 "HoneyHouseModel" "lots" "I") (List.mem_of_getElem? (i := 3) rfl)) (fun _ h9 => h9) rfl dX9_move_110 ?_
      refine tp_i (y := nI n3) (h3) ?_
      refine lv_icmp_ge (tgt := 144) hx hb dX9_move_113 (by decide) (fun c_126 => ?_) (fun c_126 => ?_)
      · have d_127 := n_le (a := n3) (b := i_121) (by omega) (by omega) c_126
        have e9_128 : f9_122 = rwA (drF (fv 9) j_7 a3) j_17 (drW (fv 9) j_7 a3) := by rw [← q_117]; exact ad_row (n := n3) (fun i9 h9 => h1_124 i9 (by omega)) (fun r9 i9 h8 h9 => h2_125 r9 i9 h8 (by omega)) q_119 hz9
        refine lv_aload_n hx hb dX9_move_144 rfl (lv_at hl 3 rfl) ?_
        refine lv_iload_n hx hb dX9_move_145 rfl (lv_at hl 2 rfl) ?_
        refine vp_callSi (W.runV (As := [.int (nI j_7)]) (rest := []) ⟨hx, hb, hml, hown, hts⟩ (m_all l D h0 ad cs iv (uF (uF (uF fv 9 f9_122) 10 f10_114) 23 f23_115) g24_116 n3 j_7 h3 (by omega) (by omega)) (cwV 1 hts gX9_move_X9_all rfl rfl rfl (by decide +kernel) ⟨Nat.le_of_ble_eq_true rfl, Nat.le_of_ble_eq_true rfl⟩) ⟨fun a U g mk q => ⟨q.1, q.2.1, va_K.moved (u := U) (U := U.calling g mk a) (Vm.Alike.refl U.vm) q.2.2⟩, va_recv hK hP (ci := 9) (q0 := 0) rfl rfl, fun U hU hW => ⟨rfl, by rw [hU]; exact hP, va_K.moved hW.alike hK⟩⟩ rfl rfl hl.1 rfl (lv_room (Nat.le_of_ble_eq_true rfl)) dX9_move_146 ⟨Nat.le_of_ble_eq_true rfl, Nat.le_of_ble_eq_true rfl⟩) (fun r_129 k_130 => ?_)
        have k_131 : r_129 = mall f9_122 j_7 n3 := k_130
        have hP : va_P D vwCl (mw h0 ad cs iv (uF (uF (uF fv 9 f9_122) 10 f10_114) 23 f23_115) g24_116) H := hP
        have hD : va_D A (mw h0 ad cs iv (uF (uF (uF fv 9 f9_122) 10 f10_114) 23 f23_115) g24_116) := hD
        exact W.iret (v := r_129) hx hb hr (fun t ht hW => ⟨⟨r_129, r_129, rfl, rfl, f9_122, f10_114, f23_115, g24_116, Or.inr ⟨(fun h9 => Or.elim h9 (fun h => Or.elim h (fun h => Or.elim h a_4 b_5) (fun h => Or.elim h (fun h => Or.elim h a_14 b_15) c_21)) (fun h9 => Or.elim h9 (fun h9 => Or.elim h9 c_23 (fun h9 => c2_28 (by rw [nI_clamp (n := j_7) (by omega)] at h9; exact h9))) (fun h9 => i_le_n c_34 (by rw [nI_clamp (n := j_17) (by omega), ← nv_all hV b3 j_17 (by omega), ← k_33] at h9; exact h9)))), by rw [nI_clamp (n := j_7) (by omega), ← hd9]; exact k_131.trans (by rw [e9_128]; exact mall_cg n3 (fun i9 h9 => rwA_out (by omega) (by omega))), by rw [nI_clamp (n := j_7) (by omega), nI_clamp (n := j_17) (by omega)]; exact e9_128, by rw [nI_clamp (n := j_7) (by omega), nI_clamp (n := j_17) (by omega), movH, ← hh_110, q_118, hh_110, upd_n (show j_7 ≠ j_17 by omega)]⟩, by rw [ht]; exact hP, va_K.moved hW.alike hK, hD⟩, hS.F ht⟩) hS.2.2 dX9_move_149
      have d_132 := n_nle (a := n3) (b := i_121) (by omega) (by omega) c_126
      refine lv_aload_n hx hb dX9_move_116 rfl (lv_at hl 3 rfl) ?_
      refine va_get (D := D) (ci := 9) (v := .ref (ad 9)) (C := RX9) (T := TX9) (N := 44) hx hb hts hin9 hown hK hP 0 rfl rfl 9 (by decide) (hts (.fieldLink RX9 38 "HoneyHouseModel" "grams" "[I") (List.mem_of_getElem? (i := 4) rfl)) (fun _ h9 => h9) rfl dX9_move_117 ?_
      refine lv_bipush (v := 40) hx hb dX9_move_120 (by decide) ?_
      refine lv_iload_n hx hb dX9_move_122 rfl (lv_at hl 1 rfl) ?_
      refine lv_imul hx hb dX9_move_123 ?_
      refine tp_i (y := nI (40 * j_17)) (pk_mul 40 j_17) ?_
      refine lv_iload hx hb dX9_move_124 (lv_at hl 0 rfl) ?_
      refine lv_iadd hx hb dX9_move_126 ?_
      refine tp_i (y := nI ((40 * j_17) + i_121)) (nI_add (40 * j_17) i_121) ?_
      refine lv_dup2_11 hx hb dX9_move_127 rfl rfl ?_
      refine va_iald (f := f9_122) (n := 2800) hx hb hK hP 7 6 rfl rfl (vp_in_nI (n := (40 * j_17) + i_121) (by omega) (by omega)) dX9_move_128 ?_
      refine lv_topi (fun z_133 hz_134 => ?_)
      rw [nI_clamp (n := (40 * j_17) + i_121) (by omega)] at hz_134
      obtain rfl : z_133 = f9_122 ((40 * j_17) + i_121) := hz_134
      refine lv_aload_n hx hb dX9_move_129 rfl (lv_at hl 3 rfl) ?_
      refine va_get (D := D) (ci := 9) (v := .ref (ad 23)) (C := RX9) (T := TX9) (N := 44) hx hb hts hin9 hown hK hP 0 rfl rfl 23 (by decide) (hts (.fieldLink RX9 80 "HoneyHouseModel" "drawn" "[I") (List.mem_of_getElem? (i := 5) rfl)) (fun _ h9 => h9) rfl dX9_move_130 ?_
      refine lv_iload hx hb dX9_move_133 (lv_at hl 0 rfl) ?_
      refine va_iald (f := f23_115) (n := 40) hx hb hK hP 17 16 rfl rfl (vp_in_nI (n := i_121) (by omega) (by omega)) dX9_move_135 ?_
      refine lv_topi (fun z_135 hz_136 => ?_)
      rw [nI_clamp (n := i_121) (by omega)] at hz_136
      obtain rfl : z_135 = f23_115 i_121 := hz_136
      refine lv_iadd hx hb dX9_move_136 ?_
      refine va_iast (f := f9_122) (n := 2800) hx hb hK hP hD hS 7 6 rfl rfl (vp_in_nI (n := (40 * j_17) + i_121) (by omega) (by omega)) dX9_move_137 (fun H locs hP hD hS => ?_)
      have hP : va_P D vwCl (mw h0 ad cs iv (uF (uF (uF fv 9 (upd f9_122 (nI ((40 * j_17) + i_121)).toNatClampNeg ((f9_122 ((40 * j_17) + i_121)) + (f23_115 i_121)))) 10 f10_114) 23 f23_115) g24_116) H := hP
      have hD : va_D A (mw h0 ad cs iv (uF (uF (uF fv 9 (upd f9_122 (nI ((40 * j_17) + i_121)).toNatClampNeg ((f9_122 ((40 * j_17) + i_121)) + (f23_115 i_121)))) 10 f10_114) 23 f23_115) g24_116) := hD
      obtain ⟨f_137, hf_138⟩ : ∃ g9, g9 = upd f9_122 (nI ((40 * j_17) + i_121)).toNatClampNeg ((f9_122 ((40 * j_17) + i_121)) + (f23_115 i_121)) := ⟨_, rfl⟩
      rw [← hf_138] at hP hD
      rw [nI_clamp (n := (40 * j_17) + i_121) (by omega)] at hf_138
      refine lv_iinc (v := nI (i_121 + 1)) (lv' := [(5, .int (nI (i_121 + 1))), (2, .int (nI j_17)), (1, .int (nI j_7)), (0, .ref h0)]) hx hb dX9_move_138 hl (k := 0) rfl (nI_add i_121 1) (by decide) rfl (fun ls hl => ?_)
      refine lv_goto (tgt := 107) hx hb dX9_move_141 (by decide) ?_
      exact ih_120 (i_121 + 1, f_137) (mw h0 ad cs iv (uF (uF (uF fv 9 f_137) 10 f10_114) 23 f23_115) g24_116) _ _ ls (by show n3 - (i_121 + 1) < n3 - i_121; omega) ⟨rfl, (show (i_121 + 1) ≤ n3 from by omega), (show ∀ i9 : Nat, i9 < (i_121 + 1) → f_137 (40 * j_17 + i9) = f9_113 (40 * j_17 + i9) + f23_115 i9 from fun i9 h9 => by rw [hf_138]; rcases Nat.decEq i9 i_121 with q | q; (rw [upd_n (by omega)]; exact h1_124 i9 (by omega)); (rw [q, upd_s, h2_125 j_17 i_121 (by omega) (Or.inr (by omega))])), (show ∀ r9 i9 : Nat, i9 < 40 → r9 ≠ j_17 ∨ (i_121 + 1) ≤ i9 → f_137 (40 * r9 + i9) = f9_113 (40 * r9 + i9) from fun r9 i9 h8 h9 => by rw [hf_138, upd_n (by omega)]; exact h2_125 r9 i9 h8 (by omega))⟩ hP hD hS (lv_sub hl [0, 1, 2, 3] rfl)
    refine lv_bipush (v := (-2)) hx hb dX9_move_51 (by decide) ?_
    have hP : va_P D vwCl (mw h0 ad cs iv (uF (uF (uF fv 9 (fv 9)) 10 (fv 10)) 23 (fv 23)) gv) s.heap := hP
    have hD : va_D A (mw h0 ad cs iv (uF (uF (uF fv 9 (fv 9)) 10 (fv 10)) 23 (fv 23)) gv) := hD
    exact W.iret (v := (-2)) hx hb hr (fun t ht hW => ⟨⟨(-2), (-2), rfl, rfl, fv 9, fv 10, fv 23, gv, Or.inl ⟨Or.inr (Or.inr (by rw [nI_clamp (n := j_17) (by omega), ← nv_all hV b3 j_17 (by omega), ← k_33]; exact i_nle c_34)), (if_neg (fun h => Or.elim h (fun h => Or.elim h a_4 b_5) (fun h => Or.elim h (fun h => Or.elim h a_14 b_15) c_21))).symm, rfl, rfl⟩, by rw [ht]; exact hP, va_K.moved hW.alike hK, hD⟩, hS.F ht⟩) hS.2.2 dX9_move_53
  have d_139 := n_eq (a := j_7) (b := j_17) (by omega) (by omega) c_21
  refine lv_iconst (v := (-1)) hx hb dX9_move_19 (by decide) ?_
  have hP : va_P D vwCl (mw h0 ad cs iv (uF (uF (uF fv 9 (fv 9)) 10 (fv 10)) 23 (fv 23)) gv) s.heap := hP
  have hD : va_D A (mw h0 ad cs iv (uF (uF (uF fv 9 (fv 9)) 10 (fv 10)) 23 (fv 23)) gv) := hD
  exact W.iret (v := (-1)) hx hb hr (fun t ht hW => ⟨⟨(-1), (-1), rfl, rfl, fv 9, fv 10, fv 23, gv, Or.inl ⟨Or.inl (Or.inr (Or.inr c_21)), (if_pos (Or.inr (Or.inr c_21))).symm, rfl, rfl⟩, by rw [ht]; exact hP, va_K.moved hW.alike hK, hD⟩, hS.F ht⟩) hS.2.2 dX9_move_20
set_option maxHeartbeats 4000000 in
set_option maxRecDepth 100000 in
theorem m_jar (l : Launch) (D : va_G) (h0 : Nat) (ad : Nat → Nat) (cs : Nat → ClassId) (iv : Nat → Int32) (fv : Nat → Nat → Int32) (gv : Nat → Int64) (n3 n13 : Nat) (a1 a2 : Int32) (sz : Nat) (h3 : iv 3 = nI n3) (h13 : iv 13 = nI n13) (b3 : n3 ≤ 40) (b13 : n13 ≤ 60) (hV : NV fv n3) : Met l yX9_jar wsX9_jar ({ frames := 2, cells := 0, slots := 0, locals := 51 }) (va_Pc [.ref h0, .int a1, .int a2] (fun U => U.heap.size = sz ∧ va_P D vwCl (mw h0 ad cs iv fv gv) U.heap ∧ va_K D vwCl (mT cs) U ∧ va_D (fun _ => True) (mw h0 ad cs iv fv gv))) (va_Qi (fun (r u : Int32) => r = u) (fun (r : Int32) (t : State) => ∃ (k13 : Nat) (f9 : Nat → Int32) (f10 : Nat → Int32) (f23 : Nat → Int32) (g24 : Nat → Int64) (f11 : Nat → Int32) (f12 : Nat → Int32), (k13 ≤ 60) ∧ ((jarN fv n13 a1 a2 ∧ r = (if (a1 < 0 ∨ 9 < a1) then (-1) else if (a2 < 1 ∨ mall (fv 9) a1.toNatClampNeg 40 < a2) then (-2) else (-3)) ∧ k13 = n13 ∧ f9 = fv 9 ∧ f10 = fv 10 ∧ f11 = fv 11 ∧ f12 = fv 12) ∨ (¬ jarN fv n13 a1 a2 ∧ r = nI n13 ∧ k13 = n13 + 1 ∧ f9 = rwI (drF (fv 9) a1.toNatClampNeg a2) (10 + n13) (drW (fv 9) a1.toNatClampNeg a2) ∧ f10 = upd (upd (fv 10) (10 + n13) (fv 10 a1.toNatClampNeg)) a1.toNatClampNeg (if drA (fv 9) a1.toNatClampNeg a2 = 0 then 0 else fv 10 a1.toNatClampNeg) ∧ f11 = upd (fv 11) (10 + n13) a1 ∧ f12 = upd (fv 12) (10 + n13) (iv 2))) ∧ va_P D vwCl (mw h0 ad cs (upd iv 13 (nI k13)) (uF (uF (uF (uF (uF fv 9 f9) 10 f10) 11 f11) 12 f12) 23 f23) g24) t.heap ∧ va_K D vwCl (mT cs) t ∧ va_D (va_A (mw h0 ad cs iv fv gv) sz) (mw h0 ad cs (upd iv 13 (nI k13)) (uF (uF (uF (uF (uF fv 9 f9) 10 f10) 11 f11) 12 f12) 23 f23) g24)) (va_A (mw h0 ad cs iv fv gv) sz)) 0 0 (va_A (mw h0 ad cs iv fv gv) sz) := by
  refine Met.ofW (cc := cX9_jar) (maxL := 5) (ret := (some .int)) (by decide) rfl ?_
  intro p e s m args below meth c s₁ B hml hv
  obtain ⟨rfl, hsz, hP, hK, hD0⟩ := hv
  have hx := B.exec
  have hb := B.bytes
  have hr := B.returns
  have hts := atoms_spec (ws := wsX9_jar) B.pre
  have hown : s.vm.findClass RX9 = some m.cls := findClass_of_methodNamed B.named
  have hlocks := B.notSynchronized
  subst hsz
  have hD := hD0.self (sz := s.heap.size)
  generalize hAe : va_A (mw h0 ad cs iv fv gv) s.heap.size = A at hD ⊢
  have hA : ∀ q : Nat, s.heap.size ≤ q → A q := fun q h => by rw [← hAe]; exact Or.inr h
  have hS : va_S A s.heap s.heap [] := va_S.rf
  have hin9 : ∀ w ∈ u_ws RX9 TX9 44, w ∈ wsX9_jar := (fun _ h9 => List.mem_cons_of_mem _ ((List.mem_append_right _ h9)))
  have hl := lv_entry ([.ref h0, .int a1, .int a2]) (n := 5) (Nat.le_of_ble_eq_true rfl)
  rw [lg_entry_eq]
  generalize (lg_sl ([.ref h0, .int a1, .int a2]) ++ List.replicate (5 - (lg_sl ([.ref h0, .int a1, .int a2])).length) Slot.unset).toArray = ls at hl ⊢
  have hl : lv_has ls 5 [(0, .ref h0), (1, .int a1), (2, .int a2)] := hl
  refine lv_iload_n hx hb dX9_jar_0 rfl (lv_at hl 1 rfl) ?_
  refine vp_callSi (W.runS (As := [.int a1]) (rest := []) ⟨hx, hb, hml, hown, hts⟩ (s_X9_isTank l a1) (va_cwS 1 hts gX9_jar_X9_isTank rfl rfl rfl (by decide +kernel) ⟨Nat.le_of_ble_eq_true rfl, Nat.le_of_ble_eq_true rfl⟩) ⟨fun a U g mk q => q, fun U hU hW => ⟨rfl, trivial⟩⟩ rfl rfl hl.1 rfl (lv_room (Nat.le_of_ble_eq_true rfl)) dX9_jar_1 ⟨Nat.le_of_ble_eq_true rfl, Nat.le_of_ble_eq_true rfl⟩) (fun r_1 k_2 => ?_)
  rcases k_2 with ⟨rfl, o_3⟩ | ⟨rfl, a_4, b_5⟩
  · refine lv_if_ne (tgt := 9) hx hb dX9_jar_4 (by decide) (fun c_6 => absurd (by decide) c_6) (fun c_6 => ?_)
    refine lv_iconst (v := (-1)) hx hb dX9_jar_7 (by decide) ?_
    have hP : va_P D vwCl (mw h0 ad cs (upd iv 13 (iv 13)) (uF (uF (uF (uF (uF fv 9 (fv 9)) 10 (fv 10)) 11 (fv 11)) 12 (fv 12)) 23 (fv 23)) gv) s.heap := hP
    have hD : va_D A (mw h0 ad cs (upd iv 13 (iv 13)) (uF (uF (uF (uF (uF fv 9 (fv 9)) 10 (fv 10)) 11 (fv 11)) 12 (fv 12)) 23 (fv 23)) gv) := hD
    have hP := hP
    rw [h13] at hP hD
    exact W.iret (v := (-1)) hx hb hr (fun t ht hW => ⟨⟨(-1), (-1), rfl, rfl, n13, fv 9, fv 10, fv 23, gv, fv 11, fv 12, by omega, Or.inl ⟨Or.inl o_3, (if_pos o_3).symm, rfl, rfl, rfl, rfl, rfl⟩, by rw [ht]; exact hP, va_K.moved hW.alike hK, hD⟩, hS.F ht⟩) hS.2.2 dX9_jar_8
  obtain ⟨j_7, hj_8, hj_9, rfl⟩ := is_nat (a := 0) (b := 9) a_4 b_5 (by omega)
  refine lv_if_ne (tgt := 9) hx hb dX9_jar_4 (by decide) (fun c_10 => ?_) (fun c_10 => absurd c_10 (by decide))
  refine lv_iload_n hx hb dX9_jar_9 rfl (lv_at hl 2 rfl) ?_
  refine lv_iconst (v := 1) hx hb dX9_jar_10 (by decide) ?_
  refine lv_icmp_lt (tgt := 23) hx hb dX9_jar_11 (by decide) (fun c_11 => ?_) (fun c_11 => ?_)
  · refine lv_bipush (v := (-2)) hx hb dX9_jar_23 (by decide) ?_
    have hP : va_P D vwCl (mw h0 ad cs (upd iv 13 (iv 13)) (uF (uF (uF (uF (uF fv 9 (fv 9)) 10 (fv 10)) 11 (fv 11)) 12 (fv 12)) 23 (fv 23)) gv) s.heap := hP
    have hD : va_D A (mw h0 ad cs (upd iv 13 (iv 13)) (uF (uF (uF (uF (uF fv 9 (fv 9)) 10 (fv 10)) 11 (fv 11)) 12 (fv 12)) 23 (fv 23)) gv) := hD
    have hP := hP
    rw [h13] at hP hD
    exact W.iret (v := (-2)) hx hb hr (fun t ht hW => ⟨⟨(-2), (-2), rfl, rfl, n13, fv 9, fv 10, fv 23, gv, fv 11, fv 12, by omega, Or.inl ⟨Or.inr (Or.inl (Or.inl c_11)), (by rw [if_neg (fun h => Or.elim h a_4 b_5), if_pos (Or.inl c_11)]), rfl, rfl, rfl, rfl, rfl⟩, by rw [ht]; exact hP, va_K.moved hW.alike hK, hD⟩, hS.F ht⟩) hS.2.2 dX9_jar_25
  refine lv_iload_n hx hb dX9_jar_14 rfl (lv_at hl 2 rfl) ?_
  refine lv_aload_n hx hb dX9_jar_15 rfl (lv_at hl 0 rfl) ?_
  refine lv_iload_n hx hb dX9_jar_16 rfl (lv_at hl 1 rfl) ?_
  refine vp_callSi (W.runV (As := [.int (nI j_7)]) (rest := [.int a2]) ⟨hx, hb, hml, hown, hts⟩ (m_all l D h0 ad cs iv fv gv n3 j_7 h3 (by omega) (by omega)) (cwV 1 hts gX9_jar_X9_all rfl rfl rfl (by decide +kernel) ⟨Nat.le_of_ble_eq_true rfl, Nat.le_of_ble_eq_true rfl⟩) ⟨fun a U g mk q => ⟨q.1, q.2.1, va_K.moved (u := U) (U := U.calling g mk a) (Vm.Alike.refl U.vm) q.2.2⟩, va_recv hK hP (ci := 9) (q0 := 0) rfl rfl, fun U hU hW => ⟨rfl, by rw [hU]; exact hP, va_K.moved hW.alike hK⟩⟩ rfl rfl hl.1 rfl (lv_room (Nat.le_of_ble_eq_true rfl)) dX9_jar_17 ⟨Nat.le_of_ble_eq_true rfl, Nat.le_of_ble_eq_true rfl⟩) (fun r_12 k_13 => ?_)
  have k_14 : r_12 = mall (fv 9) j_7 n3 := k_13
  refine lv_icmp_le (tgt := 26) hx hb dX9_jar_20 (by decide) (fun c_15 => ?_) (fun c_15 => ?_)
  · have c2_16 : ¬ mall (fv 9) j_7 40 < a2 := by rw [← nv_all hV b3 j_7 (by omega), ← k_14]; exact i_le_n c_15
    refine lv_aload_n hx hb dX9_jar_26 rfl (lv_at hl 0 rfl) ?_
    refine va_get (D := D) (ci := 9) (v := .int (iv 13)) (C := RX9) (T := TX9) (N := 44) hx hb hts hin9 hown hK hP 0 rfl rfl 13 (by decide) (hts (.fieldLink RX9 50 "HoneyHouseModel" "batches" "I") (List.mem_of_getElem? (i := 1) rfl)) (fun _ h9 => h9) rfl dX9_jar_27 ?_
    refine tp_i (y := nI n13) (h13) ?_
    refine lv_bipush (v := 60) hx hb dX9_jar_30 (by decide) ?_
    refine lv_icmp_ne (tgt := 38) hx hb dX9_jar_32 (by decide) (fun c_17 => ?_) (fun c_17 => ?_)
    · have d_18 := n_ne (a := n13) (b := 60) (by omega) (by omega) c_17
      refine lv_bipush (v := 10) hx hb dX9_jar_38 (by decide) ?_
      refine lv_aload_n hx hb dX9_jar_40 rfl (lv_at hl 0 rfl) ?_
      refine va_get (D := D) (ci := 9) (v := .int (iv 13)) (C := RX9) (T := TX9) (N := 44) hx hb hts hin9 hown hK hP 0 rfl rfl 13 (by decide) (hts (.fieldLink RX9 50 "HoneyHouseModel" "batches" "I") (List.mem_of_getElem? (i := 1) rfl)) (fun _ h9 => h9) rfl dX9_jar_41 ?_
      refine tp_i (y := nI n13) (h13) ?_
      refine lv_iadd hx hb dX9_jar_44 ?_
      refine tp_i (y := nI (10 + n13)) (nI_add 10 n13) ?_
      refine lv_istore_n (lv' := [(3, .int (nI (10 + n13))), (0, .ref h0), (1, .int (nI j_7)), (2, .int a2)]) hx hb dX9_jar_45 rfl hl (by decide) rfl (fun ls hl => ?_)
      refine lv_aload_n hx hb dX9_jar_46 rfl (lv_at hl 1 rfl) ?_
      refine lv_dup hx hb dX9_jar_47 rfl ?_
      refine va_get (D := D) (ci := 9) (v := .int (iv 13)) (C := RX9) (T := TX9) (N := 44) hx hb hts hin9 hown hK hP 0 rfl rfl 13 (by decide) (hts (.fieldLink RX9 50 "HoneyHouseModel" "batches" "I") (List.mem_of_getElem? (i := 1) rfl)) (fun _ h9 => h9) rfl dX9_jar_48 ?_
      refine tp_i (y := nI n13) (h13) ?_
      refine lv_iconst (v := 1) hx hb dX9_jar_51 (by decide) ?_
      refine lv_iadd hx hb dX9_jar_52 ?_
      refine tp_i (y := nI (n13 + 1)) (nI_add n13 1) ?_
      refine va_put (D := D) (ci := 9) (v := .int (nI (n13 + 1))) (ty := .int) (C := RX9) (T := TX9) (N := 44) hx hb hts hin9 tyX9 tyX9_ok nmX9 hown hK hP hD hS 0 rfl rfl 13 (by decide) (hts (.fieldLink RX9 50 "HoneyHouseModel" "batches" "I") (List.mem_of_getElem? (i := 1) rfl)) (fun _ h9 => h9) rfl (tyX9_ok 13 (by decide)) rfl rfl (Nat.le_of_ble_eq_true rfl) dX9_jar_53 (fun H locs hP hD hS => ?_)
      have hP : va_P D vwCl (mw h0 ad cs (upd iv 13 (nI (n13 + 1))) fv gv) H := hP
      have hD : va_D A (mw h0 ad cs (upd iv 13 (nI (n13 + 1))) fv gv) := hD
      refine lv_aload_n hx hb dX9_jar_56 rfl (lv_at hl 1 rfl) ?_
      refine va_get (D := D) (ci := 9) (v := .ref (ad 10)) (C := RX9) (T := TX9) (N := 44) hx hb hts hin9 hown hK hP 0 rfl rfl 10 (by decide) (hts (.fieldLink RX9 41 "HoneyHouseModel" "heat" "[I") (List.mem_of_getElem? (i := 2) rfl)) (fun _ h9 => h9) rfl dX9_jar_57 ?_
      refine lv_iload_n hx hb dX9_jar_60 rfl (lv_at hl 0 rfl) ?_
      refine lv_aload_n hx hb dX9_jar_61 rfl (lv_at hl 1 rfl) ?_
      refine va_get (D := D) (ci := 9) (v := .ref (ad 10)) (C := RX9) (T := TX9) (N := 44) hx hb hts hin9 hown hK hP 0 rfl rfl 10 (by decide) (hts (.fieldLink RX9 41 "HoneyHouseModel" "heat" "[I") (List.mem_of_getElem? (i := 2) rfl)) (fun _ h9 => h9) rfl dX9_jar_62 ?_
      refine lv_iload_n hx hb dX9_jar_65 rfl (lv_at hl 2 rfl) ?_
      refine va_iald (f := fv 10) (n := 70) hx hb hK hP 8 7 rfl rfl (vp_in_nI (n := j_7) (by omega) (by omega)) dX9_jar_66 ?_
      refine lv_topi (fun z_19 hz_20 => ?_)
      rw [nI_clamp (n := j_7) (by omega)] at hz_20
      obtain rfl : z_19 = fv 10 j_7 := hz_20
      refine va_iast (f := fv 10) (n := 70) hx hb hK hP hD hS 8 7 rfl rfl (vp_in_nI (n := 10 + n13) (by omega) (by omega)) dX9_jar_67 (fun H locs hP hD hS => ?_)
      have hP : va_P D vwCl (mw h0 ad cs (upd iv 13 (nI (n13 + 1))) (uF fv 10 (upd (fv 10) (nI (10 + n13)).toNatClampNeg (fv 10 j_7))) gv) H := hP
      have hD : va_D A (mw h0 ad cs (upd iv 13 (nI (n13 + 1))) (uF fv 10 (upd (fv 10) (nI (10 + n13)).toNatClampNeg (fv 10 j_7))) gv) := hD
      obtain ⟨f_21, hf_22⟩ : ∃ g9, g9 = upd (fv 10) (nI (10 + n13)).toNatClampNeg (fv 10 j_7) := ⟨_, rfl⟩
      rw [← hf_22] at hP hD
      rw [nI_clamp (n := 10 + n13) (by omega)] at hf_22
      refine lv_aload_n hx hb dX9_jar_68 rfl (lv_at hl 1 rfl) ?_
      refine va_get (D := D) (ci := 9) (v := .ref (ad 11)) (C := RX9) (T := TX9) (N := 44) hx hb hts hin9 hown hK hP 0 rfl rfl 11 (by decide) (hts (.fieldLink RX9 44 "HoneyHouseModel" "room" "[I") (List.mem_of_getElem? (i := 3) rfl)) (fun _ h9 => h9) rfl dX9_jar_69 ?_
      refine lv_iload_n hx hb dX9_jar_72 rfl (lv_at hl 0 rfl) ?_
      refine lv_iload_n hx hb dX9_jar_73 rfl (lv_at hl 2 rfl) ?_
      refine va_iast (f := fv 11) (n := 70) hx hb hK hP hD hS 9 8 rfl rfl (vp_in_nI (n := 10 + n13) (by omega) (by omega)) dX9_jar_74 (fun H locs hP hD hS => ?_)
      have hP : va_P D vwCl (mw h0 ad cs (upd iv 13 (nI (n13 + 1))) (uF (uF fv 10 f_21) 11 (upd (fv 11) (nI (10 + n13)).toNatClampNeg (nI j_7))) gv) H := hP
      have hD : va_D A (mw h0 ad cs (upd iv 13 (nI (n13 + 1))) (uF (uF fv 10 f_21) 11 (upd (fv 11) (nI (10 + n13)).toNatClampNeg (nI j_7))) gv) := hD
      obtain ⟨f_23, hf_24⟩ : ∃ g9, g9 = upd (fv 11) (nI (10 + n13)).toNatClampNeg (nI j_7) := ⟨_, rfl⟩
      rw [← hf_24] at hP hD
      rw [nI_clamp (n := 10 + n13) (by omega)] at hf_24
      refine lv_aload_n hx hb dX9_jar_75 rfl (lv_at hl 1 rfl) ?_
      refine va_get (D := D) (ci := 9) (v := .ref (ad 12)) (C := RX9) (T := TX9) (N := 44) hx hb hts hin9 hown hK hP 0 rfl rfl 12 (by decide) (hts (.fieldLink RX9 47 "HoneyHouseModel" "price" "[I") (List.mem_of_getElem? (i := 4) rfl)) (fun _ h9 => h9) rfl dX9_jar_76 ?_
      refine lv_iload_n hx hb dX9_jar_79 rfl (lv_at hl 0 rfl) ?_
      refine lv_aload_n hx hb dX9_jar_80 rfl (lv_at hl 1 rfl) ?_
      refine va_get (D := D) (ci := 9) (v := .int (iv 2)) (C := RX9) (T := TX9) (N := 44) hx hb hts hin9 hown hK hP 0 rfl rfl 2 (by decide) (hts (.fieldLink RX9 17 "HoneyHouseModel" "today" "I") (List.mem_of_getElem? (i := 5) rfl)) (fun _ h9 => h9) rfl dX9_jar_81 ?_
      refine va_iast (f := fv 12) (n := 70) hx hb hK hP hD hS 10 9 rfl rfl (vp_in_nI (n := 10 + n13) (by omega) (by omega)) dX9_jar_84 (fun H locs hP hD hS => ?_)
      have hP : va_P D vwCl (mw h0 ad cs (upd iv 13 (nI (n13 + 1))) (uF (uF (uF fv 10 f_21) 11 f_23) 12 (upd (fv 12) (nI (10 + n13)).toNatClampNeg (iv 2))) gv) H := hP
      have hD : va_D A (mw h0 ad cs (upd iv 13 (nI (n13 + 1))) (uF (uF (uF fv 10 f_21) 11 f_23) 12 (upd (fv 12) (nI (10 + n13)).toNatClampNeg (iv 2))) gv) := hD
      obtain ⟨f_25, hf_26⟩ : ∃ g9, g9 = upd (fv 12) (nI (10 + n13)).toNatClampNeg (iv 2) := ⟨_, rfl⟩
      rw [← hf_26] at hP hD
      rw [nI_clamp (n := 10 + n13) (by omega)] at hf_26
      refine lv_aload_n hx hb dX9_jar_85 rfl (lv_at hl 1 rfl) ?_
      refine lv_iload_n hx hb dX9_jar_86 rfl (lv_at hl 2 rfl) ?_
      refine lv_iload_n hx hb dX9_jar_87 rfl (lv_at hl 3 rfl) ?_
      obtain ⟨G9, u8, X9, S9, L9, ex9, hX1, hXS, hS9, -, -, -, hm9, hmn, hn9, -, hL9, hu9, -, hz8, -, hl9, hr9⟩ := nv_draw hV b3 (t := j_7) (x := a2) (by omega) c_11 c2_16
      have hd9 := nv_drA hV b3 (t := j_7) (x := a2) (by omega) c_11 c2_16
      have hz9 : ∀ i9 : Nat, n3 ≤ i9 → i9 < 40 → drW (fv 9) j_7 a2 i9 = 0 := fun i9 h1 h2 => by rw [hu9 i9 h2, hz8 i9 h1 h2, nI_0]
      have hFc := free_all hD hS hA
      refine va_callv (va_runV (As := [.int (nI j_7), .int a2]) (rest := []) ⟨hx, hb, hml, hown, hts⟩ (m_draw l D h0 ad cs (upd iv 13 (nI (n13 + 1))) (uF (uF (uF fv 10 f_21) 11 f_23) 12 f_25) gv n3 j_7 S9 L9 a2 H.size h3 (by omega) (by omega) hmn hm9 ⟨by omega, by omega⟩ hn9 hl9 hL9 hr9 hz9 hd9) (cwV 2 hts gX9_jar_X9_draw rfl rfl rfl (by decide +kernel) ⟨Nat.le_of_ble_eq_true rfl, Nat.le_of_ble_eq_true rfl⟩) ⟨fun a U g mk q => by obtain ⟨q0, q1, qP, qK, qD⟩ := q; exact ⟨q0, q1, qP, va_K.moved (u := U) (U := U.calling g mk a) (Vm.Alike.refl U.vm) qK, qD⟩, va_recv hK hP (ci := 9) (q0 := 0) rfl rfl, fun U hU hW => ⟨rfl, by rw [hU], by rw [hU]; exact hP, va_K.moved hW.alike hK, hD.weaken (fun _ _ _ _ => trivial)⟩⟩ rfl rfl hl.1 rfl (lv_room (Nat.le_of_ble_eq_true rfl)) dX9_jar_88 ⟨Nat.le_of_ble_eq_true rfl, Nat.le_of_ble_eq_true rfl⟩) hS (fun q _ h => hFc q h) hFc (fun u t H1 locs ht hvm w_28 hB hz1 hk1 hS => ?_)
      obtain ⟨f9_29, f10_30, f23_31, g24_32, q_33, q_34, q_35, hP1, hK1, hD1⟩ := hB
      replace q_33 : f9_29 = drF ((fv 9)) j_7 a2 := q_33
      replace q_34 : f10_30 = upd ((f_21)) j_7 (if drA ((fv 9)) j_7 a2 = 0 then 0 else (f_21) j_7) := q_34
      replace q_35 : ∀ i9 : Nat, i9 < n3 → f23_31 i9 = drW ((fv 9)) j_7 a2 i9 := q_35
      rw [ht] at hP1
      have hK := va_K.moved hvm.symm hK1
      generalize H1 = H at hP1 hS ⊢
      have hP : va_P D vwCl (mw h0 ad cs (upd iv 13 (nI (n13 + 1))) (uF (uF (uF (uF (uF fv 9 f9_29) 10 f10_30) 11 f_23) 12 f_25) 23 f23_31) g24_32) H := hP1
      have hD : va_D A (mw h0 ad cs (upd iv 13 (nI (n13 + 1))) (uF (uF (uF (uF (uF fv 9 f9_29) 10 f10_30) 11 f_23) 12 f_25) 23 f23_31) g24_32) := hD1.weaken (fun _ _ _ h => hFc _ h)
      refine lv_iconst (v := 0) hx hb dX9_jar_91 (by decide) ?_
      refine lv_istore (lv' := [(4, .int 0), (3, .int (nI (10 + n13))), (0, .ref h0), (1, .int (nI j_7)), (2, .int a2)]) hx hb dX9_jar_92 hl (by decide) rfl (fun ls hl => ?_)
      refine lp_V (nL := 5) (σ := Nat × (Nat → Int32)) (lv := fun x9 => [(4, .int (nI x9.1)), (3, .int (nI (10 + n13))), (1, .int (nI j_7)), (0, .ref h0)]) (μ := fun x9 => 40 - x9.1) (J := fun x9 ws9 => ws9 = (mw h0 ad cs (upd iv 13 (nI (n13 + 1))) (uF (uF (uF (uF (uF fv 9 x9.2) 10 f10_30) 11 f_23) 12 f_25) 23 f23_31) g24_32) ∧ (x9.1 ≤ 40) ∧ (∀ i9 : Nat, i9 < x9.1 → x9.2 (40 * (10 + n13) + i9) = drW (fv 9) j_7 a2 i9) ∧ (∀ r9 i9 : Nat, i9 < 40 → r9 ≠ (10 + n13) → x9.2 (40 * r9 + i9) = f9_29 (40 * r9 + i9))) (fun x9 ws9 H locs ls hj hP hD hS hl ih_36 => ?_) (0, f9_29) (mw h0 ad cs (upd iv 13 (nI (n13 + 1))) (uF (uF (uF (uF (uF fv 9 f9_29) 10 f10_30) 11 f_23) 12 f_25) 23 f23_31) g24_32) _ _ ls ⟨rfl, (show 0 ≤ 40 from by omega), (show ∀ i9 : Nat, i9 < 0 → f9_29 (40 * (10 + n13) + i9) = drW (fv 9) j_7 a2 i9 from fun i9 h9 => absurd h9 (by omega)), (show ∀ r9 i9 : Nat, i9 < 40 → r9 ≠ (10 + n13) → f9_29 (40 * r9 + i9) = f9_29 (40 * r9 + i9) from fun _ _ _ _ => rfl)⟩ hP hD hS (lv_sub hl [0, 1, 3, 2] rfl)
      obtain ⟨i_37, f9_38⟩ := x9
      replace hj : ws9 = (mw h0 ad cs (upd iv 13 (nI (n13 + 1))) (uF (uF (uF (uF (uF fv 9 f9_38) 10 f10_30) 11 f_23) 12 f_25) 23 f23_31) g24_32) ∧ (i_37 ≤ 40) ∧ (∀ i9 : Nat, i9 < i_37 → f9_38 (40 * (10 + n13) + i9) = drW (fv 9) j_7 a2 i9) ∧ (∀ r9 i9 : Nat, i9 < 40 → r9 ≠ (10 + n13) → f9_38 (40 * r9 + i9) = f9_29 (40 * r9 + i9)) := hj
      obtain ⟨rfl, hi_39, h1_40, h2_41⟩ := hj
      have hl : lv_has ls 5 [(4, .int (nI i_37)), (3, .int (nI (10 + n13))), (1, .int (nI j_7)), (0, .ref h0)] := hl
      refine lv_iload hx hb dX9_jar_94 (lv_at hl 0 rfl) ?_
      refine lv_bipush (v := 40) hx hb dX9_jar_96 (by decide) ?_
      refine lv_icmp_ge (tgt := 139) hx hb dX9_jar_98 (by decide) (fun c_42 => ?_) (fun c_42 => ?_)
      · have d_43 := n_le (a := 40) (b := i_37) (by omega) (by omega) c_42
        have e9_44 : f9_38 = rwI (drF (fv 9) j_7 a2) (10 + n13) (drW (fv 9) j_7 a2) := by rw [← q_33]; exact in_row (fun i9 h9 => h1_40 i9 (by omega)) (fun r9 i9 h8 h9 => h2_41 r9 i9 h8 h9)
        refine lv_aload_n hx hb dX9_jar_139 rfl (lv_at hl 3 rfl) ?_
        refine va_get (D := D) (ci := 9) (v := .int (nI (n13 + 1))) (C := RX9) (T := TX9) (N := 44) hx hb hts hin9 hown hK hP 0 rfl rfl 13 (by decide) (hts (.fieldLink RX9 50 "HoneyHouseModel" "batches" "I") (List.mem_of_getElem? (i := 1) rfl)) (fun _ h9 => h9) rfl dX9_jar_140 ?_
        refine lv_iconst (v := 1) hx hb dX9_jar_143 (by decide) ?_
        refine lv_isub hx hb dX9_jar_144 ?_
        refine tp_i (y := nI ((n13 + 1) - 1)) (pk_sub (a := n13 + 1) (b := 1) (by omega)) ?_
        have hP : va_P D vwCl (mw h0 ad cs (upd iv 13 (nI (n13 + 1))) (uF (uF (uF (uF (uF fv 9 f9_38) 10 f10_30) 11 f_23) 12 f_25) 23 f23_31) g24_32) H := hP
        have hD : va_D A (mw h0 ad cs (upd iv 13 (nI (n13 + 1))) (uF (uF (uF (uF (uF fv 9 f9_38) 10 f10_30) 11 f_23) 12 f_25) 23 f23_31) g24_32) := hD
        exact W.iret (v := nI ((n13 + 1) - 1)) hx hb hr (fun t ht hW => ⟨⟨nI ((n13 + 1) - 1), nI ((n13 + 1) - 1), rfl, rfl, n13 + 1, f9_38, f10_30, f23_31, g24_32, f_23, f_25, by omega, Or.inr ⟨(fun h9 => Or.elim h9 (fun h => Or.elim h a_4 b_5) (fun h9 => Or.elim h9 (fun h9 => Or.elim h9 c_11 (fun h9 => c2_16 (by rw [nI_clamp (n := j_7) (by omega)] at h9; exact h9))) (fun h9 => absurd h9 (by omega)))), by rw [show n13 + 1 - 1 = n13 by omega], rfl, by rw [nI_clamp (n := j_7) (by omega)]; exact e9_44, by rw [nI_clamp (n := j_7) (by omega), q_34, hf_22, upd_n (show j_7 ≠ 10 + n13 by omega)], hf_24, hf_26⟩, by rw [ht]; exact hP, va_K.moved hW.alike hK, hD⟩, hS.F ht⟩) hS.2.2 dX9_jar_145
      have d_45 := n_nle (a := 40) (b := i_37) (by omega) (by omega) c_42
      refine lv_aload_n hx hb dX9_jar_101 rfl (lv_at hl 3 rfl) ?_
      refine va_get (D := D) (ci := 9) (v := .ref (ad 9)) (C := RX9) (T := TX9) (N := 44) hx hb hts hin9 hown hK hP 0 rfl rfl 9 (by decide) (hts (.fieldLink RX9 38 "HoneyHouseModel" "grams" "[I") (List.mem_of_getElem? (i := 6) rfl)) (fun _ h9 => h9) rfl dX9_jar_102 ?_
      refine lv_bipush (v := 40) hx hb dX9_jar_105 (by decide) ?_
      refine lv_iload_n hx hb dX9_jar_107 rfl (lv_at hl 1 rfl) ?_
      refine lv_imul hx hb dX9_jar_108 ?_
      refine tp_i (y := nI (40 * (10 + n13))) (pk_mul 40 (10 + n13)) ?_
      refine lv_iload hx hb dX9_jar_109 (lv_at hl 0 rfl) ?_
      refine lv_iadd hx hb dX9_jar_111 ?_
      refine tp_i (y := nI ((40 * (10 + n13)) + i_37)) (nI_add (40 * (10 + n13)) i_37) ?_
      refine lv_iload hx hb dX9_jar_112 (lv_at hl 0 rfl) ?_
      refine lv_aload_n hx hb dX9_jar_114 rfl (lv_at hl 3 rfl) ?_
      refine va_get (D := D) (ci := 9) (v := .int (iv 3)) (C := RX9) (T := TX9) (N := 44) hx hb hts hin9 hown hK hP 0 rfl rfl 3 (by decide) (hts (.fieldLink RX9 20 "HoneyHouseModel" "lots" "I") (List.mem_of_getElem? (i := 7) rfl)) (fun _ h9 => h9) rfl dX9_jar_115 ?_
      refine tp_i (y := nI n3) (h3) ?_
      refine lv_icmp_ge (tgt := 131) hx hb dX9_jar_118 (by decide) (fun c_46 => ?_) (fun c_46 => ?_)
      · have d_47 := n_le (a := n3) (b := i_37) (by omega) (by omega) c_46
        refine lv_iconst (v := 0) hx hb dX9_jar_131 (by decide) ?_
        refine va_iast (f := f9_38) (n := 2800) hx hb hK hP hD hS 7 6 rfl rfl (vp_in_nI (n := (40 * (10 + n13)) + i_37) (by omega) (by omega)) dX9_jar_132 (fun H locs hP hD hS => ?_)
        have hP : va_P D vwCl (mw h0 ad cs (upd iv 13 (nI (n13 + 1))) (uF (uF (uF (uF (uF fv 9 (upd f9_38 (nI ((40 * (10 + n13)) + i_37)).toNatClampNeg 0)) 10 f10_30) 11 f_23) 12 f_25) 23 f23_31) g24_32) H := hP
        have hD : va_D A (mw h0 ad cs (upd iv 13 (nI (n13 + 1))) (uF (uF (uF (uF (uF fv 9 (upd f9_38 (nI ((40 * (10 + n13)) + i_37)).toNatClampNeg 0)) 10 f10_30) 11 f_23) 12 f_25) 23 f23_31) g24_32) := hD
        obtain ⟨f_48, hf_49⟩ : ∃ g9, g9 = upd f9_38 (nI ((40 * (10 + n13)) + i_37)).toNatClampNeg 0 := ⟨_, rfl⟩
        rw [← hf_49] at hP hD
        rw [nI_clamp (n := (40 * (10 + n13)) + i_37) (by omega)] at hf_49
        refine lv_iinc (v := nI (i_37 + 1)) (lv' := [(4, .int (nI (i_37 + 1))), (3, .int (nI (10 + n13))), (1, .int (nI j_7)), (0, .ref h0)]) hx hb dX9_jar_133 hl (k := 0) rfl (nI_add i_37 1) (by decide) rfl (fun ls hl => ?_)
        refine lv_goto (tgt := 94) hx hb dX9_jar_136 (by decide) ?_
        exact ih_36 (i_37 + 1, f_48) (mw h0 ad cs (upd iv 13 (nI (n13 + 1))) (uF (uF (uF (uF (uF fv 9 f_48) 10 f10_30) 11 f_23) 12 f_25) 23 f23_31) g24_32) _ _ ls (by show 40 - (i_37 + 1) < 40 - i_37; omega) ⟨rfl, (show (i_37 + 1) ≤ 40 from by omega), (show ∀ i9 : Nat, i9 < (i_37 + 1) → f_48 (40 * (10 + n13) + i9) = drW (fv 9) j_7 a2 i9 from fun i9 h9 => by rw [hf_49]; rcases Nat.decEq i9 i_37 with q | q; (rw [upd_n (by omega)]; exact h1_40 i9 (by omega)); (rw [q, upd_s]; exact (hz9 i_37 (by omega) (by omega)).symm)), (show ∀ r9 i9 : Nat, i9 < 40 → r9 ≠ (10 + n13) → f_48 (40 * r9 + i9) = f9_29 (40 * r9 + i9) from fun r9 i9 h8 h9 => by rw [hf_49, upd_n (by omega)]; exact h2_41 r9 i9 h8 h9)⟩ hP hD hS (lv_sub hl [0, 1, 2, 3] rfl)
      have d_50 := n_nle (a := n3) (b := i_37) (by omega) (by omega) c_46
      refine lv_aload_n hx hb dX9_jar_121 rfl (lv_at hl 3 rfl) ?_
      refine va_get (D := D) (ci := 9) (v := .ref (ad 23)) (C := RX9) (T := TX9) (N := 44) hx hb hts hin9 hown hK hP 0 rfl rfl 23 (by decide) (hts (.fieldLink RX9 80 "HoneyHouseModel" "drawn" "[I") (List.mem_of_getElem? (i := 8) rfl)) (fun _ h9 => h9) rfl dX9_jar_122 ?_
      refine lv_iload hx hb dX9_jar_125 (lv_at hl 0 rfl) ?_
      refine va_iald (f := f23_31) (n := 40) hx hb hK hP 17 16 rfl rfl (vp_in_nI (n := i_37) (by omega) (by omega)) dX9_jar_127 ?_
      refine lv_topi (fun z_51 hz_52 => ?_)
      rw [nI_clamp (n := i_37) (by omega)] at hz_52
      obtain rfl : z_51 = f23_31 i_37 := hz_52
      refine lv_goto (tgt := 132) hx hb dX9_jar_128 (by decide) ?_
      refine va_iast (f := f9_38) (n := 2800) hx hb hK hP hD hS 7 6 rfl rfl (vp_in_nI (n := (40 * (10 + n13)) + i_37) (by omega) (by omega)) dX9_jar_132 (fun H locs hP hD hS => ?_)
      have hP : va_P D vwCl (mw h0 ad cs (upd iv 13 (nI (n13 + 1))) (uF (uF (uF (uF (uF fv 9 (upd f9_38 (nI ((40 * (10 + n13)) + i_37)).toNatClampNeg (f23_31 i_37))) 10 f10_30) 11 f_23) 12 f_25) 23 f23_31) g24_32) H := hP
      have hD : va_D A (mw h0 ad cs (upd iv 13 (nI (n13 + 1))) (uF (uF (uF (uF (uF fv 9 (upd f9_38 (nI ((40 * (10 + n13)) + i_37)).toNatClampNeg (f23_31 i_37))) 10 f10_30) 11 f_23) 12 f_25) 23 f23_31) g24_32) := hD
      obtain ⟨f_53, hf_54⟩ : ∃ g9, g9 = upd f9_38 (nI ((40 * (10 + n13)) + i_37)).toNatClampNeg (f23_31 i_37) := ⟨_, rfl⟩
      rw [← hf_54] at hP hD
      rw [nI_clamp (n := (40 * (10 + n13)) + i_37) (by omega)] at hf_54
      refine lv_iinc (v := nI (i_37 + 1)) (lv' := [(4, .int (nI (i_37 + 1))), (3, .int (nI (10 + n13))), (1, .int (nI j_7)), (0, .ref h0)]) hx hb dX9_jar_133 hl (k := 0) rfl (nI_add i_37 1) (by decide) rfl (fun ls hl => ?_)
      refine lv_goto (tgt := 94) hx hb dX9_jar_136 (by decide) ?_
      exact ih_36 (i_37 + 1, f_53) (mw h0 ad cs (upd iv 13 (nI (n13 + 1))) (uF (uF (uF (uF (uF fv 9 f_53) 10 f10_30) 11 f_23) 12 f_25) 23 f23_31) g24_32) _ _ ls (by show 40 - (i_37 + 1) < 40 - i_37; omega) ⟨rfl, (show (i_37 + 1) ≤ 40 from by omega), (show ∀ i9 : Nat, i9 < (i_37 + 1) → f_53 (40 * (10 + n13) + i9) = drW (fv 9) j_7 a2 i9 from fun i9 h9 => by rw [hf_54]; rcases Nat.decEq i9 i_37 with q | q; (rw [upd_n (by omega)]; exact h1_40 i9 (by omega)); (rw [q, upd_s]; exact q_35 i_37 (by omega))), (show ∀ r9 i9 : Nat, i9 < 40 → r9 ≠ (10 + n13) → f_53 (40 * r9 + i9) = f9_29 (40 * r9 + i9) from fun r9 i9 h8 h9 => by rw [hf_54, upd_n (by omega)]; exact h2_41 r9 i9 h8 h9)⟩ hP hD hS (lv_sub hl [0, 1, 2, 3] rfl)
    have d_55 := n_eq (a := n13) (b := 60) (by omega) (by omega) c_17
    refine lv_bipush (v := (-3)) hx hb dX9_jar_35 (by decide) ?_
    have hP : va_P D vwCl (mw h0 ad cs (upd iv 13 (iv 13)) (uF (uF (uF (uF (uF fv 9 (fv 9)) 10 (fv 10)) 11 (fv 11)) 12 (fv 12)) 23 (fv 23)) gv) s.heap := hP
    have hD : va_D A (mw h0 ad cs (upd iv 13 (iv 13)) (uF (uF (uF (uF (uF fv 9 (fv 9)) 10 (fv 10)) 11 (fv 11)) 12 (fv 12)) 23 (fv 23)) gv) := hD
    have hP := hP
    rw [h13] at hP hD
    exact W.iret (v := (-3)) hx hb hr (fun t ht hW => ⟨⟨(-3), (-3), rfl, rfl, n13, fv 9, fv 10, fv 23, gv, fv 11, fv 12, by omega, Or.inl ⟨Or.inr (Or.inr (by omega)), (by rw [if_neg (fun h => Or.elim h a_4 b_5), if_neg (fun h9 => Or.elim h9 c_11 (fun h9 => c2_16 (by rw [nI_clamp (n := j_7) (by omega)] at h9; exact h9)))]), rfl, rfl, rfl, rfl, rfl⟩, by rw [ht]; exact hP, va_K.moved hW.alike hK, hD⟩, hS.F ht⟩) hS.2.2 dX9_jar_37
  refine lv_bipush (v := (-2)) hx hb dX9_jar_23 (by decide) ?_
  have hP : va_P D vwCl (mw h0 ad cs (upd iv 13 (iv 13)) (uF (uF (uF (uF (uF fv 9 (fv 9)) 10 (fv 10)) 11 (fv 11)) 12 (fv 12)) 23 (fv 23)) gv) s.heap := hP
  have hD : va_D A (mw h0 ad cs (upd iv 13 (iv 13)) (uF (uF (uF (uF (uF fv 9 (fv 9)) 10 (fv 10)) 11 (fv 11)) 12 (fv 12)) 23 (fv 23)) gv) := hD
  have hP := hP
  rw [h13] at hP hD
  exact W.iret (v := (-2)) hx hb hr (fun t ht hW => ⟨⟨(-2), (-2), rfl, rfl, n13, fv 9, fv 10, fv 23, gv, fv 11, fv 12, by omega, Or.inl ⟨Or.inr (Or.inl (Or.inr (by rw [nI_clamp (n := j_7) (by omega), ← nv_all hV b3 j_7 (by omega), ← k_14]; exact i_nle c_15))), (by rw [if_neg (fun h => Or.elim h a_4 b_5), if_pos (Or.inr (by rw [nI_clamp (n := j_7) (by omega), ← nv_all hV b3 j_7 (by omega), ← k_14]; exact i_nle c_15))]), rfl, rfl, rfl, rfl, rfl⟩, by rw [ht]; exact hP, va_K.moved hW.alike hK, hD⟩, hS.F ht⟩) hS.2.2 dX9_jar_25
set_option maxHeartbeats 4000000 in
set_option maxRecDepth 100000 in
theorem m_trace (l : Launch) (D : va_G) (h0 : Nat) (ad : Nat → Nat) (cs : Nat → ClassId) (iv : Nat → Int32) (fv : Nat → Nat → Int32) (gv : Nat → Int64) (n3 n13 n43 : Nat) (a1 : Int32) (sz : Nat) (h3 : iv 3 = nI n3) (h13 : iv 13 = nI n13) (h43 : iv 43 = nI n43) (b3 : n3 ≤ 40) (b13 : n13 ≤ 60) (b43 : n43 ≤ 60) : Met l yX9_trace wsX9_trace ({ frames := 1, cells := 0, slots := 0, locals := 21 }) (va_Pc [.ref h0, .int a1] (fun U => U.heap.size = sz ∧ va_P D vwCl (mw h0 ad cs iv fv gv) U.heap ∧ va_K D vwCl (mT cs) U ∧ va_D (fun _ => True) (mw h0 ad cs iv fv gv))) (va_Qi (fun (r u : Int32) => r = u) (fun (r : Int32) (t : State) => ∃ (k43 : Nat) (f42 : Nat → Int32), (k43 ≤ 60) ∧ (((a1 < 0 ∨ nI n3 ≤ a1) ∧ r = (-1) ∧ k43 = n43 ∧ f42 = fv 42) ∨ (¬ (a1 < 0 ∨ nI n3 ≤ a1) ∧ r = nI k43 ∧ k43 = trN (fv 9) a1.toNatClampNeg n13 ∧ f42 = trW (fv 9) a1.toNatClampNeg (fv 42) n13)) ∧ va_P D vwCl (mw h0 ad cs (upd iv 43 (nI k43)) (uF fv 42 f42) gv) t.heap ∧ va_K D vwCl (mT cs) t ∧ va_D (va_A (mw h0 ad cs iv fv gv) sz) (mw h0 ad cs (upd iv 43 (nI k43)) (uF fv 42 f42) gv)) (va_A (mw h0 ad cs iv fv gv) sz)) 0 0 (va_A (mw h0 ad cs iv fv gv) sz) := by
  refine Met.ofW (cc := cX9_trace) (maxL := 3) (ret := (some .int)) (by decide) rfl ?_
  intro p e s m args below meth c s₁ B hml hv
  obtain ⟨rfl, hsz, hP, hK, hD0⟩ := hv
  have hx := B.exec
  have hb := B.bytes
  have hr := B.returns
  have hts := atoms_spec (ws := wsX9_trace) B.pre
  have hown : s.vm.findClass RX9 = some m.cls := findClass_of_methodNamed B.named
  have hlocks := B.notSynchronized
  subst hsz
  have hD := hD0.self (sz := s.heap.size)
  generalize hAe : va_A (mw h0 ad cs iv fv gv) s.heap.size = A at hD ⊢
  have hA : ∀ q : Nat, s.heap.size ≤ q → A q := fun q h => by rw [← hAe]; exact Or.inr h
  have hS : va_S A s.heap s.heap [] := va_S.rf
  have hin9 : ∀ w ∈ u_ws RX9 TX9 44, w ∈ wsX9_trace := (fun _ h9 => List.mem_cons_of_mem _ ((List.mem_append_right _ h9)))
  have hl := lv_entry ([.ref h0, .int a1]) (n := 3) (Nat.le_of_ble_eq_true rfl)
  rw [lg_entry_eq]
  generalize (lg_sl ([.ref h0, .int a1]) ++ List.replicate (3 - (lg_sl ([.ref h0, .int a1])).length) Slot.unset).toArray = ls at hl ⊢
  have hl : lv_has ls 3 [(0, .ref h0), (1, .int a1)] := hl
  refine lv_aload_n hx hb dX9_trace_0 rfl (lv_at hl 0 rfl) ?_
  refine lv_iload_n hx hb dX9_trace_1 rfl (lv_at hl 1 rfl) ?_
  refine vp_callSi (W.runV (As := [.int a1]) (rest := []) ⟨hx, hb, hml, hown, hts⟩ (m_isLot l D h0 ad cs iv fv gv n3 a1 h3 (by omega)) (cwV 1 hts gX9_trace_X9_isLot rfl rfl rfl (by decide +kernel) ⟨Nat.le_of_ble_eq_true rfl, Nat.le_of_ble_eq_true rfl⟩) ⟨fun a U g mk q => ⟨q.1, q.2.1, va_K.moved (u := U) (U := U.calling g mk a) (Vm.Alike.refl U.vm) q.2.2⟩, va_recv hK hP (ci := 9) (q0 := 0) rfl rfl, fun U hU hW => ⟨rfl, by rw [hU]; exact hP, va_K.moved hW.alike hK⟩⟩ rfl rfl hl.1 rfl (lv_room (Nat.le_of_ble_eq_true rfl)) dX9_trace_2 ⟨Nat.le_of_ble_eq_true rfl, Nat.le_of_ble_eq_true rfl⟩) (fun r_1 k_2 => ?_)
  rcases k_2 with ⟨rfl, o_5⟩ | ⟨rfl, j_3, hj_4, rfl⟩
  · refine lv_if_ne (tgt := 10) hx hb dX9_trace_5 (by decide) (fun c_6 => absurd (by decide) c_6) (fun c_6 => ?_)
    refine lv_iconst (v := (-1)) hx hb dX9_trace_8 (by decide) ?_
    have hP : va_P D vwCl (mw h0 ad cs (upd iv 43 (iv 43)) (uF fv 42 (fv 42)) gv) s.heap := hP
    have hD : va_D A (mw h0 ad cs (upd iv 43 (iv 43)) (uF fv 42 (fv 42)) gv) := hD
    have hP := hP
    rw [h43] at hP hD
    exact W.iret (v := (-1)) hx hb hr (fun t ht hW => ⟨⟨(-1), (-1), rfl, rfl, n43, fv 42, by omega, Or.inl ⟨o_5, rfl, rfl, rfl⟩, by rw [ht]; exact hP, va_K.moved hW.alike hK, hD⟩, hS.F ht⟩) hS.2.2 dX9_trace_9
  refine lv_if_ne (tgt := 10) hx hb dX9_trace_5 (by decide) (fun c_7 => ?_) (fun c_7 => absurd c_7 (by decide))
  refine lv_aload_n hx hb dX9_trace_10 rfl (lv_at hl 0 rfl) ?_
  refine lv_iconst (v := 0) hx hb dX9_trace_11 (by decide) ?_
  refine va_put (D := D) (ci := 9) (v := .int 0) (ty := .int) (C := RX9) (T := TX9) (N := 44) hx hb hts hin9 tyX9 tyX9_ok nmX9 hown hK hP hD hS 0 rfl rfl 43 (by decide) (hts (.fieldLink RX9 142 "HoneyHouseModel" "founds" "I") (List.mem_of_getElem? (i := 1) rfl)) (fun _ h9 => h9) rfl (tyX9_ok 43 (by decide)) rfl rfl (Nat.le_of_ble_eq_true rfl) dX9_trace_12 (fun H locs hP hD hS => ?_)
  have hP : va_P D vwCl (mw h0 ad cs (upd iv 43 0) fv gv) H := hP
  have hD : va_D A (mw h0 ad cs (upd iv 43 0) fv gv) := hD
  refine lv_iconst (v := 0) hx hb dX9_trace_15 (by decide) ?_
  refine lv_istore_n (lv' := [(2, .int 0), (0, .ref h0), (1, .int (nI j_3))]) hx hb dX9_trace_16 rfl hl (by decide) rfl (fun ls hl => ?_)
  refine lp_V (nL := 3) (σ := Nat × Nat × (Nat → Int32)) (lv := fun x9 => [(2, .int (nI x9.1)), (1, .int (nI j_3)), (0, .ref h0)]) (μ := fun x9 => n13 - x9.1) (J := fun x9 ws9 => ws9 = (mw h0 ad cs (upd iv 43 (nI x9.2.1)) (uF fv 42 x9.2.2) gv) ∧ (x9.1 ≤ n13) ∧ (x9.2.1 ≤ x9.1) ∧ (x9.2.1 = trN (fv 9) j_3 x9.1) ∧ (x9.2.2 = trW (fv 9) j_3 (fv 42) x9.1)) (fun x9 ws9 H locs ls hj hP hD hS hl ih_8 => ?_) (0, 0, fv 42) (mw h0 ad cs (upd iv 43 0) fv gv) _ _ ls ⟨rfl, (show 0 ≤ n13 from by omega), (show 0 ≤ 0 from by omega), (show 0 = trN (fv 9) j_3 0 from rfl), (show (fv 42) = trW (fv 9) j_3 (fv 42) 0 from rfl)⟩ hP hD hS (lv_sub hl [0, 2, 1] rfl)
  obtain ⟨i_9, n_10, f42_11⟩ := x9
  replace hj : ws9 = (mw h0 ad cs (upd iv 43 (nI n_10)) (uF fv 42 f42_11) gv) ∧ (i_9 ≤ n13) ∧ (n_10 ≤ i_9) ∧ (n_10 = trN (fv 9) j_3 i_9) ∧ (f42_11 = trW (fv 9) j_3 (fv 42) i_9) := hj
  obtain ⟨rfl, hi_12, hn0_13, hn_14, hf_15⟩ := hj
  have hl : lv_has ls 3 [(2, .int (nI i_9)), (1, .int (nI j_3)), (0, .ref h0)] := hl
  refine lv_iload_n hx hb dX9_trace_17 rfl (lv_at hl 0 rfl) ?_
  refine lv_aload_n hx hb dX9_trace_18 rfl (lv_at hl 2 rfl) ?_
  refine va_get (D := D) (ci := 9) (v := .int (iv 13)) (C := RX9) (T := TX9) (N := 44) hx hb hts hin9 hown hK hP 0 rfl rfl 13 (by decide) (hts (.fieldLink RX9 50 "HoneyHouseModel" "batches" "I") (List.mem_of_getElem? (i := 2) rfl)) (fun _ h9 => h9) rfl dX9_trace_19 ?_
  refine tp_i (y := nI n13) (h13) ?_
  refine lv_icmp_ge (tgt := 71) hx hb dX9_trace_22 (by decide) (fun c_16 => ?_) (fun c_16 => ?_)
  · have d_17 := n_le (a := n13) (b := i_9) (by omega) (by omega) c_16
    refine lv_aload_n hx hb dX9_trace_71 rfl (lv_at hl 2 rfl) ?_
    refine va_get (D := D) (ci := 9) (v := .int (nI n_10)) (C := RX9) (T := TX9) (N := 44) hx hb hts hin9 hown hK hP 0 rfl rfl 43 (by decide) (hts (.fieldLink RX9 142 "HoneyHouseModel" "founds" "I") (List.mem_of_getElem? (i := 1) rfl)) (fun _ h9 => h9) rfl dX9_trace_72 ?_
    have hP : va_P D vwCl (mw h0 ad cs (upd iv 43 (nI n_10)) (uF fv 42 f42_11) gv) H := hP
    have hD : va_D A (mw h0 ad cs (upd iv 43 (nI n_10)) (uF fv 42 f42_11) gv) := hD
    exact W.iret (v := nI n_10) hx hb hr (fun t ht hW => ⟨⟨nI n_10, nI n_10, rfl, rfl, n_10, f42_11, by omega, Or.inr ⟨lot_in hj_4 (by omega), rfl, by rw [nI_clamp (n := j_3) (by omega), show n13 = i_9 by omega]; exact hn_14, by rw [nI_clamp (n := j_3) (by omega), show n13 = i_9 by omega]; exact hf_15⟩, by rw [ht]; exact hP, va_K.moved hW.alike hK, hD⟩, hS.F ht⟩) hS.2.2 dX9_trace_75
  have d_18 := n_nle (a := n13) (b := i_9) (by omega) (by omega) c_16
  refine lv_aload_n hx hb dX9_trace_25 rfl (lv_at hl 2 rfl) ?_
  refine va_get (D := D) (ci := 9) (v := .ref (ad 9)) (C := RX9) (T := TX9) (N := 44) hx hb hts hin9 hown hK hP 0 rfl rfl 9 (by decide) (hts (.fieldLink RX9 38 "HoneyHouseModel" "grams" "[I") (List.mem_of_getElem? (i := 3) rfl)) (fun _ h9 => h9) rfl dX9_trace_26 ?_
  refine lv_bipush (v := 40) hx hb dX9_trace_29 (by decide) ?_
  refine lv_bipush (v := 10) hx hb dX9_trace_31 (by decide) ?_
  refine lv_iload_n hx hb dX9_trace_33 rfl (lv_at hl 0 rfl) ?_
  refine lv_iadd hx hb dX9_trace_34 ?_
  refine tp_i (y := nI (10 + i_9)) (nI_add 10 i_9) ?_
  refine lv_imul hx hb dX9_trace_35 ?_
  refine tp_i (y := nI (40 * (10 + i_9))) (pk_mul 40 (10 + i_9)) ?_
  refine lv_iload_n hx hb dX9_trace_36 rfl (lv_at hl 1 rfl) ?_
  refine lv_iadd hx hb dX9_trace_37 ?_
  refine tp_i (y := nI ((40 * (10 + i_9)) + j_3)) (nI_add (40 * (10 + i_9)) j_3) ?_
  refine va_iald (f := fv 9) (n := 2800) hx hb hK hP 7 6 rfl rfl (vp_in_nI (n := (40 * (10 + i_9)) + j_3) (by omega) (by omega)) dX9_trace_38 ?_
  refine lv_topi (fun z_19 hz_20 => ?_)
  rw [nI_clamp (n := (40 * (10 + i_9)) + j_3) (by omega)] at hz_20
  obtain rfl : z_19 = fv 9 ((40 * (10 + i_9)) + j_3) := hz_20
  refine lv_if_ne (tgt := 45) hx hb dX9_trace_39 (by decide) (fun c_21 => ?_) (fun c_21 => ?_)
  · refine lv_aload_n hx hb dX9_trace_45 rfl (lv_at hl 2 rfl) ?_
    refine va_get (D := D) (ci := 9) (v := .ref (ad 42)) (C := RX9) (T := TX9) (N := 44) hx hb hts hin9 hown hK hP 0 rfl rfl 42 (by decide) (hts (.fieldLink RX9 139 "HoneyHouseModel" "found" "[I") (List.mem_of_getElem? (i := 4) rfl)) (fun _ h9 => h9) rfl dX9_trace_46 ?_
    refine lv_aload_n hx hb dX9_trace_49 rfl (lv_at hl 2 rfl) ?_
    refine va_get (D := D) (ci := 9) (v := .int (nI n_10)) (C := RX9) (T := TX9) (N := 44) hx hb hts hin9 hown hK hP 0 rfl rfl 43 (by decide) (hts (.fieldLink RX9 142 "HoneyHouseModel" "founds" "I") (List.mem_of_getElem? (i := 1) rfl)) (fun _ h9 => h9) rfl dX9_trace_50 ?_
    refine lv_iload_n hx hb dX9_trace_53 rfl (lv_at hl 0 rfl) ?_
    refine va_iast (f := f42_11) (n := 60) hx hb hK hP hD hS 29 28 rfl rfl (vp_in_nI (n := n_10) (by omega) (by omega)) dX9_trace_54 (fun H locs hP hD hS => ?_)
    have hP : va_P D vwCl (mw h0 ad cs (upd iv 43 (nI n_10)) (uF fv 42 (upd f42_11 (nI n_10).toNatClampNeg (nI i_9))) gv) H := hP
    have hD : va_D A (mw h0 ad cs (upd iv 43 (nI n_10)) (uF fv 42 (upd f42_11 (nI n_10).toNatClampNeg (nI i_9))) gv) := hD
    obtain ⟨f_22, hf_23⟩ : ∃ g9, g9 = upd f42_11 (nI n_10).toNatClampNeg (nI i_9) := ⟨_, rfl⟩
    rw [← hf_23] at hP hD
    rw [nI_clamp (n := n_10) (by omega)] at hf_23
    refine lv_aload_n hx hb dX9_trace_55 rfl (lv_at hl 2 rfl) ?_
    refine lv_dup hx hb dX9_trace_56 rfl ?_
    refine va_get (D := D) (ci := 9) (v := .int (nI n_10)) (C := RX9) (T := TX9) (N := 44) hx hb hts hin9 hown hK hP 0 rfl rfl 43 (by decide) (hts (.fieldLink RX9 142 "HoneyHouseModel" "founds" "I") (List.mem_of_getElem? (i := 1) rfl)) (fun _ h9 => h9) rfl dX9_trace_57 ?_
    refine lv_iconst (v := 1) hx hb dX9_trace_60 (by decide) ?_
    refine lv_iadd hx hb dX9_trace_61 ?_
    refine tp_i (y := nI (n_10 + 1)) (nI_add n_10 1) ?_
    refine va_put (D := D) (ci := 9) (v := .int (nI (n_10 + 1))) (ty := .int) (C := RX9) (T := TX9) (N := 44) hx hb hts hin9 tyX9 tyX9_ok nmX9 hown hK hP hD hS 0 rfl rfl 43 (by decide) (hts (.fieldLink RX9 142 "HoneyHouseModel" "founds" "I") (List.mem_of_getElem? (i := 1) rfl)) (fun _ h9 => h9) rfl (tyX9_ok 43 (by decide)) rfl rfl (Nat.le_of_ble_eq_true rfl) dX9_trace_62 (fun H locs hP hD hS => ?_)
    have hP : va_P D vwCl (mw h0 ad cs (upd iv 43 (nI (n_10 + 1))) (uF fv 42 f_22) gv) H := hP
    have hD : va_D A (mw h0 ad cs (upd iv 43 (nI (n_10 + 1))) (uF fv 42 f_22) gv) := hD
    refine lv_iinc (v := nI (i_9 + 1)) (lv' := [(2, .int (nI (i_9 + 1))), (1, .int (nI j_3)), (0, .ref h0)]) hx hb dX9_trace_65 hl (k := 0) rfl (nI_add i_9 1) (by decide) rfl (fun ls hl => ?_)
    refine lv_goto (tgt := 17) hx hb dX9_trace_68 (by decide) ?_
    exact ih_8 (i_9 + 1, n_10 + 1, f_22) (mw h0 ad cs (upd iv 43 (nI (n_10 + 1))) (uF fv 42 f_22) gv) _ _ ls (by show n13 - (i_9 + 1) < n13 - i_9; omega) ⟨rfl, (show (i_9 + 1) ≤ n13 from by omega), (show (n_10 + 1) ≤ (i_9 + 1) from by omega), (show (n_10 + 1) = trN (fv 9) j_3 (i_9 + 1) from (by rw [trN_y c_21, ← hn_14])), (show f_22 = trW (fv 9) j_3 (fv 42) (i_9 + 1) from (by rw [trW_y c_21, ← hf_15, ← hn_14]; exact hf_23))⟩ hP hD hS (lv_sub hl [0, 1, 2] rfl)
  refine lv_goto (tgt := 65) hx hb dX9_trace_42 (by decide) ?_
  refine lv_iinc (v := nI (i_9 + 1)) (lv' := [(2, .int (nI (i_9 + 1))), (1, .int (nI j_3)), (0, .ref h0)]) hx hb dX9_trace_65 hl (k := 0) rfl (nI_add i_9 1) (by decide) rfl (fun ls hl => ?_)
  refine lv_goto (tgt := 17) hx hb dX9_trace_68 (by decide) ?_
  exact ih_8 (i_9 + 1, n_10, f42_11) (mw h0 ad cs (upd iv 43 (nI n_10)) (uF fv 42 f42_11) gv) _ _ ls (by show n13 - (i_9 + 1) < n13 - i_9; omega) ⟨rfl, (show (i_9 + 1) ≤ n13 from by omega), (show n_10 ≤ (i_9 + 1) from by omega), (show n_10 = trN (fv 9) j_3 (i_9 + 1) from (by rw [trN_z c_21]; exact hn_14)), (show f42_11 = trW (fv 9) j_3 (fv 42) (i_9 + 1) from (by rw [trW_z c_21]; exact hf_15))⟩ hP hD hS (lv_sub hl [0, 1, 2] rfl)
set_option maxHeartbeats 4000000 in
set_option maxRecDepth 100000 in
theorem m_shut (l : Launch) (D : va_G) (h0 : Nat) (ad : Nat → Nat) (cs : Nat → ClassId) (iv : Nat → Int32) (fv : Nat → Nat → Int32) (gv : Nat → Int64) (n14 : Nat) (a1 a2 : Int32) (sz : Nat) (h14 : iv 14 = nI n14) (b14 : n14 ≤ 16) : Met l yX9_shut wsX9_shut ({ frames := 0, cells := 0, slots := 0, locals := 0 }) (va_Pc [.ref h0, .int a1, .int a2] (fun U => U.heap.size = sz ∧ va_P D vwCl (mw h0 ad cs iv fv gv) U.heap ∧ va_K D vwCl (mT cs) U ∧ va_D (fun _ => True) (mw h0 ad cs iv fv gv))) (va_Qi (fun (r u : Int32) => r = u) (fun (r : Int32) (t : State) => ∃ (f18 : Nat → Int32), va_P D vwCl (mw h0 ad cs iv (uF fv 18 f18) gv) t.heap ∧ va_K D vwCl (mT cs) t ∧ va_D (va_A (mw h0 ad cs iv fv gv) sz) (mw h0 ad cs iv (uF fv 18 f18) gv)) (va_A (mw h0 ad cs iv fv gv) sz)) 0 0 (va_A (mw h0 ad cs iv fv gv) sz) := by
  refine Met.ofW (cc := cX9_shut) (maxL := 3) (ret := (some .boolean)) (by decide) rfl ?_
  intro p e s m args below meth c s₁ B hml hv
  obtain ⟨rfl, hsz, hP, hK, hD0⟩ := hv
  have hx := B.exec
  have hb := B.bytes
  have hr := B.returns
  have hts := atoms_spec (ws := wsX9_shut) B.pre
  have hown : s.vm.findClass RX9 = some m.cls := findClass_of_methodNamed B.named
  have hlocks := B.notSynchronized
  subst hsz
  have hD := hD0.self (sz := s.heap.size)
  generalize hAe : va_A (mw h0 ad cs iv fv gv) s.heap.size = A at hD ⊢
  have hA : ∀ q : Nat, s.heap.size ≤ q → A q := fun q h => by rw [← hAe]; exact Or.inr h
  have hS : va_S A s.heap s.heap [] := va_S.rf
  have hin9 : ∀ w ∈ u_ws RX9 TX9 44, w ∈ wsX9_shut := (fun _ h9 => List.mem_cons_of_mem _ ((List.mem_append_right _ h9)))
  have hl := lv_entry ([.ref h0, .int a1, .int a2]) (n := 3) (Nat.le_of_ble_eq_true rfl)
  rw [lg_entry_eq]
  generalize (lg_sl ([.ref h0, .int a1, .int a2]) ++ List.replicate (3 - (lg_sl ([.ref h0, .int a1, .int a2])).length) Slot.unset).toArray = ls at hl ⊢
  have hl : lv_has ls 3 [(0, .ref h0), (1, .int a1), (2, .int a2)] := hl
  refine lv_iload_n hx hb dX9_shut_0 rfl (lv_at hl 1 rfl) ?_
  refine lv_if_lt (tgt := 32) hx hb dX9_shut_1 (by decide) (fun c_1 => ?_) (fun c_1 => ?_)
  · refine lv_iconst (v := 0) hx hb dX9_shut_32 (by decide) ?_
    have hP : va_P D vwCl (mw h0 ad cs iv (uF fv 18 (fv 18)) gv) s.heap := hP
    have hD : va_D A (mw h0 ad cs iv (uF fv 18 (fv 18)) gv) := hD
    exact W.zret (v := 0) hx hb hr rfl (fun t ht hW => ⟨⟨0, 0, rfl, rfl, fv 18, by rw [ht]; exact hP, va_K.moved hW.alike hK, hD⟩, hS.F ht⟩) hS.2.2 dX9_shut_33
  refine lv_iload_n hx hb dX9_shut_4 rfl (lv_at hl 1 rfl) ?_
  refine lv_aload_n hx hb dX9_shut_5 rfl (lv_at hl 0 rfl) ?_
  refine va_get (D := D) (ci := 9) (v := .int (iv 14)) (C := RX9) (T := TX9) (N := 44) hx hb hts hin9 hown hK hP 0 rfl rfl 14 (by decide) (hts (.fieldLink RX9 53 "HoneyHouseModel" "rules" "I") (List.mem_of_getElem? (i := 1) rfl)) (fun _ h9 => h9) rfl dX9_shut_6 ?_
  refine tp_i (y := nI n14) (h14) ?_
  refine lv_icmp_ge (tgt := 32) hx hb dX9_shut_9 (by decide) (fun c_2 => ?_) (fun c_2 => ?_)
  · refine lv_iconst (v := 0) hx hb dX9_shut_32 (by decide) ?_
    have hP : va_P D vwCl (mw h0 ad cs iv (uF fv 18 (fv 18)) gv) s.heap := hP
    have hD : va_D A (mw h0 ad cs iv (uF fv 18 (fv 18)) gv) := hD
    exact W.zret (v := 0) hx hb hr rfl (fun t ht hW => ⟨⟨0, 0, rfl, rfl, fv 18, by rw [ht]; exact hP, va_K.moved hW.alike hK, hD⟩, hS.F ht⟩) hS.2.2 dX9_shut_33
  obtain ⟨j_3, hj_4, rfl⟩ := ls_nat c_1 c_2 (by omega)
  refine lv_aload_n hx hb dX9_shut_12 rfl (lv_at hl 0 rfl) ?_
  refine va_get (D := D) (ci := 9) (v := .ref (ad 18)) (C := RX9) (T := TX9) (N := 44) hx hb hts hin9 hown hK hP 0 rfl rfl 18 (by decide) (hts (.fieldLink RX9 65 "HoneyHouseModel" "shuts" "[I") (List.mem_of_getElem? (i := 2) rfl)) (fun _ h9 => h9) rfl dX9_shut_13 ?_
  refine lv_iload_n hx hb dX9_shut_16 rfl (lv_at hl 1 rfl) ?_
  refine va_iald (f := fv 18) (n := 16) hx hb hK hP 14 13 rfl rfl (vp_in_nI (n := j_3) (by omega) (by omega)) dX9_shut_17 ?_
  refine lv_topi (fun z_5 hz_6 => ?_)
  refine lv_iconst (v := (-1)) hx hb dX9_shut_18 (by decide) ?_
  refine lv_icmp_ne (tgt := 32) hx hb dX9_shut_19 (by decide) (fun c_7 => ?_) (fun c_7 => ?_)
  · refine lv_iconst (v := 0) hx hb dX9_shut_32 (by decide) ?_
    have hP : va_P D vwCl (mw h0 ad cs iv (uF fv 18 (fv 18)) gv) s.heap := hP
    have hD : va_D A (mw h0 ad cs iv (uF fv 18 (fv 18)) gv) := hD
    exact W.zret (v := 0) hx hb hr rfl (fun t ht hW => ⟨⟨0, 0, rfl, rfl, fv 18, by rw [ht]; exact hP, va_K.moved hW.alike hK, hD⟩, hS.F ht⟩) hS.2.2 dX9_shut_33
  refine lv_iload_n hx hb dX9_shut_22 rfl (lv_at hl 2 rfl) ?_
  refine lv_aload_n hx hb dX9_shut_23 rfl (lv_at hl 0 rfl) ?_
  refine va_get (D := D) (ci := 9) (v := .ref (ad 17)) (C := RX9) (T := TX9) (N := 44) hx hb hts hin9 hown hK hP 0 rfl rfl 17 (by decide) (hts (.fieldLink RX9 62 "HoneyHouseModel" "from" "[I") (List.mem_of_getElem? (i := 3) rfl)) (fun _ h9 => h9) rfl dX9_shut_24 ?_
  refine lv_iload_n hx hb dX9_shut_27 rfl (lv_at hl 1 rfl) ?_
  refine va_iald (f := fv 17) (n := 16) hx hb hK hP 13 12 rfl rfl (vp_in_nI (n := j_3) (by omega) (by omega)) dX9_shut_28 ?_
  refine lv_topi (fun z_8 hz_9 => ?_)
  refine lv_icmp_ge (tgt := 34) hx hb dX9_shut_29 (by decide) (fun c_10 => ?_) (fun c_10 => ?_)
  · refine lv_aload_n hx hb dX9_shut_34 rfl (lv_at hl 0 rfl) ?_
    refine va_get (D := D) (ci := 9) (v := .ref (ad 18)) (C := RX9) (T := TX9) (N := 44) hx hb hts hin9 hown hK hP 0 rfl rfl 18 (by decide) (hts (.fieldLink RX9 65 "HoneyHouseModel" "shuts" "[I") (List.mem_of_getElem? (i := 2) rfl)) (fun _ h9 => h9) rfl dX9_shut_35 ?_
    refine lv_iload_n hx hb dX9_shut_38 rfl (lv_at hl 1 rfl) ?_
    refine lv_iload_n hx hb dX9_shut_39 rfl (lv_at hl 2 rfl) ?_
    refine va_iast (f := fv 18) (n := 16) hx hb hK hP hD hS 14 13 rfl rfl (vp_in_nI (n := j_3) (by omega) (by omega)) dX9_shut_40 (fun H locs hP hD hS => ?_)
    have hP : va_P D vwCl (mw h0 ad cs iv (uF fv 18 (upd (fv 18) (nI j_3).toNatClampNeg a2)) gv) H := hP
    have hD : va_D A (mw h0 ad cs iv (uF fv 18 (upd (fv 18) (nI j_3).toNatClampNeg a2)) gv) := hD
    obtain ⟨f_11, hf_12⟩ : ∃ g9, g9 = upd (fv 18) (nI j_3).toNatClampNeg a2 := ⟨_, rfl⟩
    rw [← hf_12] at hP hD
    rw [nI_clamp (n := j_3) (by omega)] at hf_12
    refine lv_iconst (v := 1) hx hb dX9_shut_41 (by decide) ?_
    have hP : va_P D vwCl (mw h0 ad cs iv (uF fv 18 f_11) gv) H := hP
    have hD : va_D A (mw h0 ad cs iv (uF fv 18 f_11) gv) := hD
    exact W.zret (v := 1) hx hb hr rfl (fun t ht hW => ⟨⟨1, 1, rfl, rfl, f_11, by rw [ht]; exact hP, va_K.moved hW.alike hK, hD⟩, hS.F ht⟩) hS.2.2 dX9_shut_42
  refine lv_iconst (v := 0) hx hb dX9_shut_32 (by decide) ?_
  have hP : va_P D vwCl (mw h0 ad cs iv (uF fv 18 (fv 18)) gv) s.heap := hP
  have hD : va_D A (mw h0 ad cs iv (uF fv 18 (fv 18)) gv) := hD
  exact W.zret (v := 0) hx hb hr rfl (fun t ht hW => ⟨⟨0, 0, rfl, rfl, fv 18, by rw [ht]; exact hP, va_K.moved hW.alike hK, hD⟩, hS.F ht⟩) hS.2.2 dX9_shut_33
