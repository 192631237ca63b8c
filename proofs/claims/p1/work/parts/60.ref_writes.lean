theorem dX9_put_0 : decode cX9_put 0 = .ok (.bipush 24, 2) := by decide +kernel
theorem dX9_put_2 : decode cX9_put 2 = .ok (.istore_n 2, 1) := by decide +kernel
theorem dX9_put_3 : decode cX9_put 3 = .ok (.iload_n 2, 1) := by decide +kernel
theorem dX9_put_4 : decode cX9_put 4 = .ok (.ifCond .lt 35, 3) := by decide +kernel
theorem dX9_put_7 : decode cX9_put 7 = .ok (.aload_n 0, 1) := by decide +kernel
theorem dX9_put_8 : decode cX9_put 8 = .ok (.getfield 7, 3) := by decide +kernel
theorem dX9_put_11 : decode cX9_put 11 = .ok (.aload_n 0, 1) := by decide +kernel
theorem dX9_put_12 : decode cX9_put 12 = .ok (.getfield 13, 3) := by decide +kernel
theorem dX9_put_15 : decode cX9_put 15 = .ok (.iload_n 1, 1) := by decide +kernel
theorem dX9_put_16 : decode cX9_put 16 = .ok (.iload_n 2, 1) := by decide +kernel
theorem dX9_put_17 : decode cX9_put 17 = .ok (.ishr, 1) := by decide +kernel
theorem dX9_put_18 : decode cX9_put 18 = .ok (.sipush 255, 3) := by decide +kernel
theorem dX9_put_21 : decode cX9_put 21 = .ok (.iand, 1) := by decide +kernel
theorem dX9_put_22 : decode cX9_put 22 = .ok (.iastore, 1) := by decide +kernel
theorem dX9_put_23 : decode cX9_put 23 = .ok (.aload_n 0, 1) := by decide +kernel
theorem dX9_put_24 : decode cX9_put 24 = .ok (.dup, 1) := by decide +kernel
theorem dX9_put_25 : decode cX9_put 25 = .ok (.getfield 13, 3) := by decide +kernel
theorem dX9_put_28 : decode cX9_put 28 = .ok (.iconst 1, 1) := by decide +kernel
theorem dX9_put_29 : decode cX9_put 29 = .ok (.iadd, 1) := by decide +kernel
theorem dX9_put_30 : decode cX9_put 30 = .ok (.putfield 13, 3) := by decide +kernel
theorem dX9_put_33 : decode cX9_put 33 = .ok (.iinc 2 (-8), 3) := by decide +kernel
theorem dX9_put_36 : decode cX9_put 36 = .ok (.goto (-33), 3) := by decide +kernel
theorem dX9_put_39 : decode cX9_put 39 = .ok (.return_, 1) := by decide +kernel
theorem dX9_feed_0 : decode cX9_feed 0 = .ok (.aload_n 0, 1) := by decide +kernel
theorem dX9_feed_1 : decode cX9_feed 1 = .ok (.getfield 13, 3) := by decide +kernel
theorem dX9_feed_4 : decode cX9_feed 4 = .ok (.bipush 20, 2) := by decide +kernel
theorem dX9_feed_6 : decode cX9_feed 6 = .ok (.iadd, 1) := by decide +kernel
theorem dX9_feed_7 : decode cX9_feed 7 = .ok (.sipush 400, 3) := by decide +kernel
theorem dX9_feed_10 : decode cX9_feed 10 = .ok (.if_icmp .le 5, 3) := by decide +kernel
theorem dX9_feed_15 : decode cX9_feed 15 = .ok (.aload_n 0, 1) := by decide +kernel
theorem dX9_feed_16 : decode cX9_feed 16 = .ok (.iload_n 1, 1) := by decide +kernel
theorem dX9_feed_17 : decode cX9_feed 17 = .ok (.invokevirtual 145, 3) := by decide +kernel
theorem dX9_feed_20 : decode cX9_feed 20 = .ok (.aload_n 0, 1) := by decide +kernel
theorem dX9_feed_21 : decode cX9_feed 21 = .ok (.iload_n 2, 1) := by decide +kernel
theorem dX9_feed_22 : decode cX9_feed 22 = .ok (.invokevirtual 145, 3) := by decide +kernel
theorem dX9_feed_25 : decode cX9_feed 25 = .ok (.aload_n 0, 1) := by decide +kernel
theorem dX9_feed_26 : decode cX9_feed 26 = .ok (.iload_n 3, 1) := by decide +kernel
theorem dX9_feed_27 : decode cX9_feed 27 = .ok (.invokevirtual 145, 3) := by decide +kernel
theorem dX9_feed_30 : decode cX9_feed 30 = .ok (.aload_n 0, 1) := by decide +kernel
theorem dX9_feed_31 : decode cX9_feed 31 = .ok (.iload 4, 2) := by decide +kernel
theorem dX9_feed_33 : decode cX9_feed 33 = .ok (.invokevirtual 145, 3) := by decide +kernel
theorem dX9_feed_36 : decode cX9_feed 36 = .ok (.aload_n 0, 1) := by decide +kernel
theorem dX9_feed_37 : decode cX9_feed 37 = .ok (.iload 5, 2) := by decide +kernel
theorem dX9_feed_39 : decode cX9_feed 39 = .ok (.invokevirtual 145, 3) := by decide +kernel
theorem dX9_feed_42 : decode cX9_feed 42 = .ok (.aload_n 0, 1) := by decide +kernel
theorem dX9_feed_43 : decode cX9_feed 43 = .ok (.getfield 13, 3) := by decide +kernel
theorem dX9_feed_46 : decode cX9_feed 46 = .ok (.ireturn, 1) := by decide +kernel
theorem dX9_end_0 : decode cX9_end 0 = .ok (.iload_n 1, 1) := by decide +kernel
theorem dX9_end_1 : decode cX9_end 1 = .ok (.ifCond .lt 11, 3) := by decide +kernel
theorem dX9_end_4 : decode cX9_end 4 = .ok (.iload_n 1, 1) := by decide +kernel
theorem dX9_end_5 : decode cX9_end 5 = .ok (.aload_n 0, 1) := by decide +kernel
theorem dX9_end_6 : decode cX9_end 6 = .ok (.getfield 13, 3) := by decide +kernel
theorem dX9_end_9 : decode cX9_end 9 = .ok (.if_icmp .le 5, 3) := by decide +kernel
theorem dX9_end_12 : decode cX9_end 12 = .ok (.iconst 0, 1) := by decide +kernel
theorem dX9_end_13 : decode cX9_end 13 = .ok (.ireturn, 1) := by decide +kernel
theorem dX9_end_14 : decode cX9_end 14 = .ok (.aload_n 0, 1) := by decide +kernel
theorem dX9_end_15 : decode cX9_end 15 = .ok (.iload_n 1, 1) := by decide +kernel
theorem dX9_end_16 : decode cX9_end 16 = .ok (.putfield 13, 3) := by decide +kernel
theorem dX9_end_19 : decode cX9_end 19 = .ok (.iconst 1, 1) := by decide +kernel
theorem dX9_end_20 : decode cX9_end 20 = .ok (.ireturn, 1) := by decide +kernel
theorem dX9_today_0 : decode cX9_today 0 = .ok (.iload_n 1, 1) := by decide +kernel
theorem dX9_today_1 : decode cX9_today 1 = .ok (.aload_n 0, 1) := by decide +kernel
theorem dX9_today_2 : decode cX9_today 2 = .ok (.getfield 17, 3) := by decide +kernel
theorem dX9_today_5 : decode cX9_today 5 = .ok (.if_icmp .lt 10, 3) := by decide +kernel
theorem dX9_today_8 : decode cX9_today 8 = .ok (.iload_n 1, 1) := by decide +kernel
theorem dX9_today_9 : decode cX9_today 9 = .ok (.sipush 30000, 3) := by decide +kernel
theorem dX9_today_12 : decode cX9_today 12 = .ok (.if_icmp .le 5, 3) := by decide +kernel
theorem dX9_today_15 : decode cX9_today 15 = .ok (.iconst 0, 1) := by decide +kernel
theorem dX9_today_16 : decode cX9_today 16 = .ok (.ireturn, 1) := by decide +kernel
theorem dX9_today_17 : decode cX9_today 17 = .ok (.aload_n 0, 1) := by decide +kernel
theorem dX9_today_18 : decode cX9_today 18 = .ok (.iload_n 1, 1) := by decide +kernel
theorem dX9_today_19 : decode cX9_today 19 = .ok (.putfield 17, 3) := by decide +kernel
theorem dX9_today_22 : decode cX9_today 22 = .ok (.iconst 1, 1) := by decide +kernel
theorem dX9_today_23 : decode cX9_today 23 = .ok (.ireturn, 1) := by decide +kernel
theorem dX9_tank_0 : decode cX9_tank 0 = .ok (.iload_n 1, 1) := by decide +kernel
theorem dX9_tank_1 : decode cX9_tank 1 = .ok (.invokestatic 165, 3) := by decide +kernel
theorem dX9_tank_4 : decode cX9_tank 4 = .ok (.ifCond .eq 33, 3) := by decide +kernel
theorem dX9_tank_7 : decode cX9_tank 7 = .ok (.iload_n 2, 1) := by decide +kernel
theorem dX9_tank_8 : decode cX9_tank 8 = .ok (.iconst 0, 1) := by decide +kernel
theorem dX9_tank_9 : decode cX9_tank 9 = .ok (.ldc 168, 2) := by decide +kernel
theorem dX9_tank_11 : decode cX9_tank 11 = .ok (.invokestatic 151, 3) := by decide +kernel
theorem dX9_tank_14 : decode cX9_tank 14 = .ok (.ifCond .eq 23, 3) := by decide +kernel
theorem dX9_tank_17 : decode cX9_tank 17 = .ok (.iload_n 3, 1) := by decide +kernel
theorem dX9_tank_18 : decode cX9_tank 18 = .ok (.iconst 0, 1) := by decide +kernel
theorem dX9_tank_19 : decode cX9_tank 19 = .ok (.sipush 10000, 3) := by decide +kernel
theorem dX9_tank_22 : decode cX9_tank 22 = .ok (.invokestatic 151, 3) := by decide +kernel
theorem dX9_tank_25 : decode cX9_tank 25 = .ok (.ifCond .eq 12, 3) := by decide +kernel
theorem dX9_tank_28 : decode cX9_tank 28 = .ok (.aload_n 0, 1) := by decide +kernel
theorem dX9_tank_29 : decode cX9_tank 29 = .ok (.iload_n 1, 1) := by decide +kernel
theorem dX9_tank_30 : decode cX9_tank 30 = .ok (.invokevirtual 169, 3) := by decide +kernel
theorem dX9_tank_33 : decode cX9_tank 33 = .ok (.iload_n 2, 1) := by decide +kernel
theorem dX9_tank_34 : decode cX9_tank 34 = .ok (.if_icmp .le 5, 3) := by decide +kernel
theorem dX9_tank_37 : decode cX9_tank 37 = .ok (.iconst 0, 1) := by decide +kernel
theorem dX9_tank_38 : decode cX9_tank 38 = .ok (.ireturn, 1) := by decide +kernel
theorem dX9_tank_39 : decode cX9_tank 39 = .ok (.aload_n 0, 1) := by decide +kernel
theorem dX9_tank_40 : decode cX9_tank 40 = .ok (.getfield 44, 3) := by decide +kernel
theorem dX9_tank_43 : decode cX9_tank 43 = .ok (.iload_n 1, 1) := by decide +kernel
theorem dX9_tank_44 : decode cX9_tank 44 = .ok (.iload_n 2, 1) := by decide +kernel
theorem dX9_tank_45 : decode cX9_tank 45 = .ok (.iastore, 1) := by decide +kernel
theorem dX9_tank_46 : decode cX9_tank 46 = .ok (.aload_n 0, 1) := by decide +kernel
theorem dX9_tank_47 : decode cX9_tank 47 = .ok (.getfield 47, 3) := by decide +kernel
theorem dX9_tank_50 : decode cX9_tank 50 = .ok (.iload_n 1, 1) := by decide +kernel
theorem dX9_tank_51 : decode cX9_tank 51 = .ok (.iload_n 3, 1) := by decide +kernel
theorem dX9_tank_52 : decode cX9_tank 52 = .ok (.iastore, 1) := by decide +kernel
theorem dX9_tank_53 : decode cX9_tank 53 = .ok (.iconst 1, 1) := by decide +kernel
theorem dX9_tank_54 : decode cX9_tank 54 = .ok (.ireturn, 1) := by decide +kernel
theorem dX9_step_0 : decode cX9_step 0 = .ok (.iload_n 1, 1) := by decide +kernel
theorem dX9_step_1 : decode cX9_step 1 = .ok (.iconst 0, 1) := by decide +kernel
theorem dX9_step_2 : decode cX9_step 2 = .ok (.iconst 3, 1) := by decide +kernel
theorem dX9_step_3 : decode cX9_step 3 = .ok (.invokestatic 151, 3) := by decide +kernel
theorem dX9_step_6 : decode cX9_step 6 = .ok (.ifCond .eq 25, 3) := by decide +kernel
theorem dX9_step_9 : decode cX9_step 9 = .ok (.iload_n 2, 1) := by decide +kernel
theorem dX9_step_10 : decode cX9_step 10 = .ok (.iconst 0, 1) := by decide +kernel
theorem dX9_step_11 : decode cX9_step 11 = .ok (.sipush 300, 3) := by decide +kernel
theorem dX9_step_14 : decode cX9_step 14 = .ok (.invokestatic 151, 3) := by decide +kernel
theorem dX9_step_17 : decode cX9_step 17 = .ok (.ifCond .eq 14, 3) := by decide +kernel
theorem dX9_step_20 : decode cX9_step 20 = .ok (.iload_n 3, 1) := by decide +kernel
theorem dX9_step_21 : decode cX9_step 21 = .ok (.iconst 0, 1) := by decide +kernel
theorem dX9_step_22 : decode cX9_step 22 = .ok (.ldc_w 291, 3) := by decide +kernel
theorem dX9_step_25 : decode cX9_step 25 = .ok (.invokestatic 151, 3) := by decide +kernel
theorem dX9_step_28 : decode cX9_step 28 = .ok (.ifCond .ne 5, 3) := by decide +kernel
theorem dX9_step_31 : decode cX9_step 31 = .ok (.iconst 0, 1) := by decide +kernel
theorem dX9_step_32 : decode cX9_step 32 = .ok (.ireturn, 1) := by decide +kernel
theorem dX9_step_33 : decode cX9_step 33 = .ok (.aload_n 0, 1) := by decide +kernel
theorem dX9_step_34 : decode cX9_step 34 = .ok (.getfield 35, 3) := by decide +kernel
theorem dX9_step_37 : decode cX9_step 37 = .ok (.iconst 2, 1) := by decide +kernel
theorem dX9_step_38 : decode cX9_step 38 = .ok (.iload_n 1, 1) := by decide +kernel
theorem dX9_step_39 : decode cX9_step 39 = .ok (.imul, 1) := by decide +kernel
theorem dX9_step_40 : decode cX9_step 40 = .ok (.iload_n 2, 1) := by decide +kernel
theorem dX9_step_41 : decode cX9_step 41 = .ok (.iastore, 1) := by decide +kernel
theorem dX9_step_42 : decode cX9_step 42 = .ok (.aload_n 0, 1) := by decide +kernel
theorem dX9_step_43 : decode cX9_step 43 = .ok (.getfield 35, 3) := by decide +kernel
theorem dX9_step_46 : decode cX9_step 46 = .ok (.iconst 2, 1) := by decide +kernel
theorem dX9_step_47 : decode cX9_step 47 = .ok (.iload_n 1, 1) := by decide +kernel
theorem dX9_step_48 : decode cX9_step 48 = .ok (.imul, 1) := by decide +kernel
theorem dX9_step_49 : decode cX9_step 49 = .ok (.iconst 1, 1) := by decide +kernel
theorem dX9_step_50 : decode cX9_step 50 = .ok (.iadd, 1) := by decide +kernel
theorem dX9_step_51 : decode cX9_step 51 = .ok (.iload_n 3, 1) := by decide +kernel
theorem dX9_step_52 : decode cX9_step 52 = .ok (.iastore, 1) := by decide +kernel
theorem dX9_step_53 : decode cX9_step 53 = .ok (.iconst 1, 1) := by decide +kernel
theorem dX9_step_54 : decode cX9_step 54 = .ok (.ireturn, 1) := by decide +kernel
theorem dX9_isLetter_0 : decode cX9_isLetter 0 = .ok (.iload_n 0, 1) := by decide +kernel
theorem dX9_isLetter_1 : decode cX9_isLetter 1 = .ok (.bipush 97, 2) := by decide +kernel
theorem dX9_isLetter_3 : decode cX9_isLetter 3 = .ok (.if_icmp .lt 13, 3) := by decide +kernel
theorem dX9_isLetter_16 : decode cX9_isLetter 16 = .ok (.iconst 0, 1) := by decide +kernel
theorem dX9_isLetter_17 : decode cX9_isLetter 17 = .ok (.ireturn, 1) := by decide +kernel
theorem dX9_here_0 : decode cX9_here 0 = .ok (.aload_n 0, 1) := by decide +kernel
theorem dX9_here_1 : decode cX9_here 1 = .ok (.getfield 87, 3) := by decide +kernel
theorem dX9_here_4 : decode cX9_here 4 = .ok (.aload_n 0, 1) := by decide +kernel
theorem dX9_here_5 : decode cX9_here 5 = .ok (.getfield 90, 3) := by decide +kernel
theorem dX9_here_8 : decode cX9_here 8 = .ok (.if_icmp .ge 44, 3) := by decide +kernel
theorem dX9_here_52 : decode cX9_here 52 = .ok (.aload_n 0, 1) := by decide +kernel
theorem dX9_here_53 : decode cX9_here 53 = .ok (.getfield 87, 3) := by decide +kernel
theorem dX9_here_56 : decode cX9_here 56 = .ok (.aload_n 0, 1) := by decide +kernel
theorem dX9_here_57 : decode cX9_here 57 = .ok (.getfield 90, 3) := by decide +kernel
theorem dX9_here_60 : decode cX9_here 60 = .ok (.if_icmp .ge 15, 3) := by decide +kernel
theorem dX9_here_75 : decode cX9_here 75 = .ok (.iconst (-1), 1) := by decide +kernel
theorem dX9_here_76 : decode cX9_here 76 = .ok (.ireturn, 1) := by decide +kernel
theorem dX9_blame_0 : decode cX9_blame 0 = .ok (.aload_n 0, 1) := by decide +kernel
theorem dX9_blame_1 : decode cX9_blame 1 = .ok (.getfield 74, 3) := by decide +kernel
theorem dX9_blame_4 : decode cX9_blame 4 = .ok (.ifCond .le 4, 3) := by decide +kernel
theorem dX9_blame_8 : decode cX9_blame 8 = .ok (.aload_n 0, 1) := by decide +kernel
theorem dX9_blame_9 : decode cX9_blame 9 = .ok (.iload_n 1, 1) := by decide +kernel
theorem dX9_blame_10 : decode cX9_blame 10 = .ok (.putfield 74, 3) := by decide +kernel
theorem dX9_blame_13 : decode cX9_blame 13 = .ok (.aload_n 0, 1) := by decide +kernel
theorem dX9_blame_14 : decode cX9_blame 14 = .ok (.iload_n 2, 1) := by decide +kernel
theorem dX9_blame_15 : decode cX9_blame 15 = .ok (.putfield 77, 3) := by decide +kernel
theorem dX9_blame_18 : decode cX9_blame 18 = .ok (.return_, 1) := by decide +kernel
theorem dX9_name_0 : decode cX9_name 0 = .ok (.aload_n 0, 1) := by decide +kernel
theorem dX9_name_1 : decode cX9_name 1 = .ok (.invokevirtual 191, 3) := by decide +kernel
theorem dX9_name_4 : decode cX9_name 4 = .ok (.invokestatic 226, 3) := by decide +kernel
theorem dX9_name_7 : decode cX9_name 7 = .ok (.ifCond .ne 13, 3) := by decide +kernel
theorem dX9_name_10 : decode cX9_name 10 = .ok (.aload_n 0, 1) := by decide +kernel
theorem dX9_name_11 : decode cX9_name 11 = .ok (.iconst 1, 1) := by decide +kernel
theorem dX9_name_12 : decode cX9_name 12 = .ok (.aload_n 0, 1) := by decide +kernel
theorem dX9_name_13 : decode cX9_name 13 = .ok (.getfield 87, 3) := by decide +kernel
theorem dX9_name_16 : decode cX9_name 16 = .ok (.invokevirtual 195, 3) := by decide +kernel
theorem dX9_name_19 : decode cX9_name 19 = .ok (.return_, 1) := by decide +kernel
theorem dX9_reads_0 : decode cX9_reads 0 = .ok (.aload_n 0, 1) := by decide +kernel
theorem dX9_reads_1 : decode cX9_reads 1 = .ok (.iconst 0, 1) := by decide +kernel
theorem dX9_reads_2 : decode cX9_reads 2 = .ok (.putfield 87, 3) := by decide +kernel
theorem dX9_reads_5 : decode cX9_reads 5 = .ok (.aload_n 0, 1) := by decide +kernel
theorem dX9_reads_6 : decode cX9_reads 6 = .ok (.invokevirtual 268, 3) := by decide +kernel
theorem dX9_reads_9 : decode cX9_reads 9 = .ok (.aload_n 0, 1) := by decide +kernel
theorem dX9_reads_10 : decode cX9_reads 10 = .ok (.getfield 74, 3) := by decide +kernel
theorem dX9_reads_13 : decode cX9_reads 13 = .ok (.ifCond .ne 9, 3) := by decide +kernel
theorem dX9_reads_22 : decode cX9_reads 22 = .ok (.aload_n 0, 1) := by decide +kernel
theorem dX9_reads_23 : decode cX9_reads 23 = .ok (.getfield 74, 3) := by decide +kernel
theorem dX9_reads_26 : decode cX9_reads 26 = .ok (.ifCond .ne 7, 3) := by decide +kernel
theorem dX9_reads_33 : decode cX9_reads 33 = .ok (.aload_n 0, 1) := by decide +kernel
theorem dX9_reads_34 : decode cX9_reads 34 = .ok (.getfield 74, 3) := by decide +kernel
theorem dX9_reads_37 : decode cX9_reads 37 = .ok (.ifCond .le 4, 3) := by decide +kernel
theorem dX9_reads_40 : decode cX9_reads 40 = .ok (.return_, 1) := by decide +kernel
theorem dX9_rule_0 : decode cX9_rule 0 = .ok (.aload_n 0, 1) := by decide +kernel
theorem dX9_rule_1 : decode cX9_rule 1 = .ok (.aload_n 0, 1) := by decide +kernel
theorem dX9_rule_2 : decode cX9_rule 2 = .ok (.getfield 13, 3) := by decide +kernel
theorem dX9_rule_5 : decode cX9_rule 5 = .ok (.putfield 90, 3) := by decide +kernel
theorem dX9_rule_8 : decode cX9_rule 8 = .ok (.aload_n 0, 1) := by decide +kernel
theorem dX9_rule_9 : decode cX9_rule 9 = .ok (.iconst 0, 1) := by decide +kernel
theorem dX9_rule_10 : decode cX9_rule 10 = .ok (.putfield 13, 3) := by decide +kernel
theorem dX9_rule_13 : decode cX9_rule 13 = .ok (.aload_n 0, 1) := by decide +kernel
theorem dX9_rule_14 : decode cX9_rule 14 = .ok (.iconst 0, 1) := by decide +kernel
theorem dX9_rule_15 : decode cX9_rule 15 = .ok (.putfield 74, 3) := by decide +kernel
theorem dX9_rule_18 : decode cX9_rule 18 = .ok (.aload_n 0, 1) := by decide +kernel
theorem dX9_rule_19 : decode cX9_rule 19 = .ok (.iconst (-1), 1) := by decide +kernel
theorem dX9_rule_20 : decode cX9_rule 20 = .ok (.putfield 77, 3) := by decide +kernel
theorem dX9_rule_23 : decode cX9_rule 23 = .ok (.aload_n 0, 1) := by decide +kernel
theorem dX9_rule_24 : decode cX9_rule 24 = .ok (.getfield 53, 3) := by decide +kernel
theorem dX9_rule_27 : decode cX9_rule 27 = .ok (.bipush 16, 2) := by decide +kernel
theorem dX9_rule_29 : decode cX9_rule 29 = .ok (.if_icmp .ne 8, 3) := by decide +kernel
theorem dX9_rule_37 : decode cX9_rule 37 = .ok (.aload_n 0, 1) := by decide +kernel
theorem dX9_rule_38 : decode cX9_rule 38 = .ok (.invokevirtual 265, 3) := by decide +kernel
theorem dX9_rule_41 : decode cX9_rule 41 = .ok (.aload_n 0, 1) := by decide +kernel
theorem dX9_rule_42 : decode cX9_rule 42 = .ok (.getfield 74, 3) := by decide +kernel
theorem dX9_rule_45 : decode cX9_rule 45 = .ok (.ifCond .le 5, 3) := by decide +kernel
theorem dX9_rule_48 : decode cX9_rule 48 = .ok (.iconst (-1), 1) := by decide +kernel
theorem dX9_rule_49 : decode cX9_rule 49 = .ok (.ireturn, 1) := by decide +kernel
set_option maxRecDepth 20000 in
theorem ggX9_feed_X9_put : GoodIn wsX9_feed wsX9_put := goodIn_r _ [6, 7, 1, 8, 9, 10, 11, 12, 13, 14, 15, 16, 17, 18, 19, 20, 21, 22, 23, 24, 25, 26, 27, 28, 29, 30, 31, 32, 33, 34, 35, 36, 37, 38, 39, 40, 41, 42, 43, 44, 45, 46, 47, 48, 49, 50, 51] (by decide +kernel) (by decide +kernel)
set_option maxRecDepth 20000 in
theorem gX9_feed_X9_put : GoodIn wsX9_feed (wsV RX9 145 RX9 yX9_put wsX9_put) := goodIn_app (goodIn_of _ (by decide +kernel)) ggX9_feed_X9_put
set_option maxRecDepth 20000 in
theorem ggX9_tank_X9_isTank : GoodIn wsX9_tank wsX9_isTank := goodIn_r _ [7] (by decide +kernel) (by decide +kernel)
set_option maxRecDepth 20000 in
theorem gX9_tank_X9_isTank : GoodIn wsX9_tank (va_wsS RX9 165 yX9_isTank wsX9_isTank) := goodIn_app (goodIn_of _ (by decide +kernel)) ggX9_tank_X9_isTank
set_option maxRecDepth 20000 in
theorem ggX9_tank_X9_is : GoodIn wsX9_tank wsX9_is := goodIn_r _ [10] (by decide +kernel) (by decide +kernel)
set_option maxRecDepth 20000 in
theorem gX9_tank_X9_is : GoodIn wsX9_tank (va_wsS RX9 151 yX9_is wsX9_is) := goodIn_app (goodIn_of _ (by decide +kernel)) ggX9_tank_X9_is
set_option maxRecDepth 20000 in
theorem ggX9_tank_X9_all : GoodIn wsX9_tank wsX9_all := goodIn_r _ [14, 15, 16, 17, 18, 19, 20, 21, 22, 23, 24, 25, 26, 27, 28, 29, 30, 31, 32, 33, 34, 35, 36, 37, 38, 39, 40, 41, 42, 43, 44, 45, 46, 47, 48, 49, 50, 51, 52, 53, 54, 55, 56, 57, 58, 59, 60] (by decide +kernel) (by decide +kernel)
set_option maxRecDepth 20000 in
theorem gX9_tank_X9_all : GoodIn wsX9_tank (wsV RX9 169 RX9 yX9_all wsX9_all) := goodIn_app (goodIn_of _ (by decide +kernel)) ggX9_tank_X9_all
set_option maxRecDepth 20000 in
theorem ggX9_step_X9_is : GoodIn wsX9_step wsX9_is := goodIn_r _ [6] (by decide +kernel) (by decide +kernel)
set_option maxRecDepth 20000 in
theorem gX9_step_X9_is : GoodIn wsX9_step (va_wsS RX9 151 yX9_is wsX9_is) := goodIn_app (goodIn_of _ (by decide +kernel)) ggX9_step_X9_is
set_option maxRecDepth 20000 in
theorem ggX9_name_X9_here : GoodIn wsX9_name wsX9_here := goodIn_r _ [11, 1, 12, 6, 45, 46, 47, 48, 49, 50, 51, 52, 53, 54, 55, 56, 57, 58, 59, 60, 61, 62, 63, 64, 65, 66, 67, 68, 69, 70, 71, 72, 73, 74, 75, 76, 77, 78, 79, 80, 81, 82, 83, 84, 85, 86, 87, 88] (by decide +kernel) (by decide +kernel)
set_option maxRecDepth 20000 in
theorem gX9_name_X9_here : GoodIn wsX9_name (wsV RX9 191 RX9 yX9_here wsX9_here) := goodIn_app (goodIn_of _ (by decide +kernel)) ggX9_name_X9_here
set_option maxRecDepth 20000 in
theorem ggX9_name_X9_isLetter : GoodIn wsX9_name wsX9_isLetter := goodIn_r _ [15] (by decide +kernel) (by decide +kernel)
set_option maxRecDepth 20000 in
theorem gX9_name_X9_isLetter : GoodIn wsX9_name (va_wsS RX9 226 yX9_isLetter wsX9_isLetter) := goodIn_app (goodIn_of _ (by decide +kernel)) ggX9_name_X9_isLetter
set_option maxRecDepth 20000 in
theorem ggX9_name_X9_blame : GoodIn wsX9_name wsX9_blame := goodIn_r _ [19, 2, 20, 45, 46, 47, 48, 49, 50, 51, 52, 53, 54, 55, 56, 57, 58, 59, 60, 61, 62, 63, 64, 65, 66, 67, 68, 69, 70, 71, 72, 73, 74, 75, 76, 77, 78, 79, 80, 81, 82, 83, 84, 85, 86, 87, 88] (by decide +kernel) (by decide +kernel)
set_option maxRecDepth 20000 in
theorem gX9_name_X9_blame : GoodIn wsX9_name (wsV RX9 195 RX9 yX9_blame wsX9_blame) := goodIn_app (goodIn_of _ (by decide +kernel)) ggX9_name_X9_blame
set_option maxRecDepth 20000 in
theorem ggX9_reads_X9_name : GoodIn wsX9_reads wsX9_name := goodIn_r _ [9, 1, 2, 10, 4, 11, 12, 13, 14, 15, 8, 16, 17, 18, 19, 20, 21, 22, 23, 24, 25, 26, 27, 28, 29, 30, 31, 32, 33, 34, 35, 36, 37, 38, 39, 40, 41, 42, 43, 44, 45, 46, 47, 48, 49, 98, 99, 100, 101, 102, 103, 104, 105, 106, 107, 108, 109, 110, 111, 112, 113, 114, 115, 116, 117, 118, 119, 120, 121, 122, 123, 124, 125, 126, 127, 128, 129, 130, 131, 132, 133, 134, 135, 136, 137, 138, 139, 140, 141] (by decide +kernel) (by decide +kernel)
set_option maxRecDepth 20000 in
theorem gX9_reads_X9_name : GoodIn wsX9_reads (wsV RX9 268 RX9 yX9_name wsX9_name) := goodIn_app (goodIn_of _ (by decide +kernel)) ggX9_reads_X9_name
set_option maxRecDepth 20000 in
theorem ggX9_rule_X9_reads : GoodIn wsX9_rule wsX9_reads := goodIn_r _ [23, 24, 3, 15, 5, 25, 26, 27, 12, 28, 14, 17, 29, 30, 31, 32, 33, 2, 34, 35, 36, 37, 38, 39, 40, 4, 41, 42, 43, 44, 45, 46, 47, 48, 49, 50, 51, 52, 53, 54, 55, 56, 57, 58, 59, 60, 61, 62, 63, 64, 65, 66, 67, 68, 69, 70, 71, 72, 73, 7, 74, 75, 76, 77, 78, 79, 80, 81, 82, 83, 84, 85, 86, 87, 88, 89, 90, 91, 92, 93, 94, 95, 96, 97, 98, 19, 99, 100, 101, 102, 103, 104, 105, 106, 107, 108, 109, 110, 111, 112, 113, 114, 115, 116, 117, 118, 119, 120, 121, 122, 123, 124, 125, 126, 127, 128, 129, 130, 131, 132, 133, 134, 135, 136, 137, 138, 139, 140, 141, 142, 143, 144, 145, 146, 147, 148, 149, 150, 151, 152, 153, 154] (by decide +kernel) (by decide +kernel)
set_option maxRecDepth 20000 in
theorem gX9_rule_X9_reads : GoodIn wsX9_rule (wsV RX9 265 RX9 yX9_reads wsX9_reads) := goodIn_app (goodIn_of _ (by decide +kernel)) ggX9_rule_X9_reads
set_option maxHeartbeats 4000000 in
set_option maxRecDepth 100000 in
theorem q_X9_put (l : Launch) (D : va_G) (h0 m0 m4 m5 m6 m7 m8 m9 m10 m11 m12 m15 m16 m17 m18 m19 m20 m23 m24 m28 m32 m33 m34 m36 m37 m38 m39 m40 m41 m42 : Nat) (ct : ClassId) (n : Nat) (f : Nat → Int32) (a1 : Int32) (sz : Nat) (hn : n + 4 ≤ 400) : Met l yX9_put wsX9_put ({ frames := 0, cells := 0, slots := 0, locals := 0 }) (va_Pc [.ref h0, .int a1] (fun U => U.heap.size = sz ∧ va_P D vwCl [(h0, .inr (9, [.ref m0, .int (nI n), .int 0, .int 0, .ref m4, .ref m5, .ref m6, .ref m7, .ref m8, .ref m9, .ref m10, .ref m11, .ref m12, .int 0, .int 0, .ref m15, .ref m16, .ref m17, .ref m18, .ref m19, .ref m20, .int 0, .int (-1), .ref m23, .ref m24, .int 0, .int 0, .int 0, .ref m28, .int 0, .int 0, .int 0, .ref m32, .ref m33, .ref m34, .int 0, .ref m36, .ref m37, .ref m38, .ref m39, .ref m40, .ref m41, .ref m42, .int 0])), (m0, .inl (ct, 400, .inl f))] U.heap ∧ va_K D vwCl [(ct, .int)] U ∧ va_D (fun _ => True) [(h0, .inr (9, [.ref m0, .int (nI n), .int 0, .int 0, .ref m4, .ref m5, .ref m6, .ref m7, .ref m8, .ref m9, .ref m10, .ref m11, .ref m12, .int 0, .int 0, .ref m15, .ref m16, .ref m17, .ref m18, .ref m19, .ref m20, .int 0, .int (-1), .ref m23, .ref m24, .int 0, .int 0, .int 0, .ref m28, .int 0, .int 0, .int 0, .ref m32, .ref m33, .ref m34, .int 0, .ref m36, .ref m37, .ref m38, .ref m39, .ref m40, .ref m41, .ref m42, .int 0])), (m0, .inl (ct, 400, .inl f))])) (va_Qv (fun _ : Unit => True) (fun (_ : Unit) (t : State) => ∃ (f1 : Nat → Int32), va_P D vwCl [(h0, .inr (9, [.ref m0, .int (nI (n + 4)), .int 0, .int 0, .ref m4, .ref m5, .ref m6, .ref m7, .ref m8, .ref m9, .ref m10, .ref m11, .ref m12, .int 0, .int 0, .ref m15, .ref m16, .ref m17, .ref m18, .ref m19, .ref m20, .int 0, .int (-1), .ref m23, .ref m24, .int 0, .int 0, .int 0, .ref m28, .int 0, .int 0, .int 0, .ref m32, .ref m33, .ref m34, .int 0, .ref m36, .ref m37, .ref m38, .ref m39, .ref m40, .ref m41, .ref m42, .int 0])), (m0, .inl (ct, 400, .inl f1))] t.heap ∧ va_K D vwCl [(ct, .int)] t ∧ va_D (va_A [(h0, .inr (9, [.ref m0, .int (nI n), .int 0, .int 0, .ref m4, .ref m5, .ref m6, .ref m7, .ref m8, .ref m9, .ref m10, .ref m11, .ref m12, .int 0, .int 0, .ref m15, .ref m16, .ref m17, .ref m18, .ref m19, .ref m20, .int 0, .int (-1), .ref m23, .ref m24, .int 0, .int 0, .int 0, .ref m28, .int 0, .int 0, .int 0, .ref m32, .ref m33, .ref m34, .int 0, .ref m36, .ref m37, .ref m38, .ref m39, .ref m40, .ref m41, .ref m42, .int 0])), (m0, .inl (ct, 400, .inl f))] sz) [(h0, .inr (9, [.ref m0, .int (nI (n + 4)), .int 0, .int 0, .ref m4, .ref m5, .ref m6, .ref m7, .ref m8, .ref m9, .ref m10, .ref m11, .ref m12, .int 0, .int 0, .ref m15, .ref m16, .ref m17, .ref m18, .ref m19, .ref m20, .int 0, .int (-1), .ref m23, .ref m24, .int 0, .int 0, .int 0, .ref m28, .int 0, .int 0, .int 0, .ref m32, .ref m33, .ref m34, .int 0, .ref m36, .ref m37, .ref m38, .ref m39, .ref m40, .ref m41, .ref m42, .int 0])), (m0, .inl (ct, 400, .inl f1))]) (va_A [(h0, .inr (9, [.ref m0, .int (nI n), .int 0, .int 0, .ref m4, .ref m5, .ref m6, .ref m7, .ref m8, .ref m9, .ref m10, .ref m11, .ref m12, .int 0, .int 0, .ref m15, .ref m16, .ref m17, .ref m18, .ref m19, .ref m20, .int 0, .int (-1), .ref m23, .ref m24, .int 0, .int 0, .int 0, .ref m28, .int 0, .int 0, .int 0, .ref m32, .ref m33, .ref m34, .int 0, .ref m36, .ref m37, .ref m38, .ref m39, .ref m40, .ref m41, .ref m42, .int 0])), (m0, .inl (ct, 400, .inl f))] sz)) 0 0 (va_A [(h0, .inr (9, [.ref m0, .int (nI n), .int 0, .int 0, .ref m4, .ref m5, .ref m6, .ref m7, .ref m8, .ref m9, .ref m10, .ref m11, .ref m12, .int 0, .int 0, .ref m15, .ref m16, .ref m17, .ref m18, .ref m19, .ref m20, .int 0, .int (-1), .ref m23, .ref m24, .int 0, .int 0, .int 0, .ref m28, .int 0, .int 0, .int 0, .ref m32, .ref m33, .ref m34, .int 0, .ref m36, .ref m37, .ref m38, .ref m39, .ref m40, .ref m41, .ref m42, .int 0])), (m0, .inl (ct, 400, .inl f))] sz) := by
  refine Met.ofW (cc := cX9_put) (maxL := 3) (ret := none) (by decide) rfl ?_
  intro p e s m args below meth c s₁ B hml hv
  obtain ⟨rfl, hsz, hP, hK, hD0⟩ := hv
  have hx := B.exec
  have hb := B.bytes
  have hr := B.returns
  have hts := atoms_spec (ws := wsX9_put) B.pre
  have hown : s.vm.findClass RX9 = some m.cls := findClass_of_methodNamed B.named
  have hlocks := B.notSynchronized
  subst hsz
  have hD := hD0.self (sz := s.heap.size)
  generalize hAe : va_A [(h0, .inr (9, [.ref m0, .int (nI n), .int 0, .int 0, .ref m4, .ref m5, .ref m6, .ref m7, .ref m8, .ref m9, .ref m10, .ref m11, .ref m12, .int 0, .int 0, .ref m15, .ref m16, .ref m17, .ref m18, .ref m19, .ref m20, .int 0, .int (-1), .ref m23, .ref m24, .int 0, .int 0, .int 0, .ref m28, .int 0, .int 0, .int 0, .ref m32, .ref m33, .ref m34, .int 0, .ref m36, .ref m37, .ref m38, .ref m39, .ref m40, .ref m41, .ref m42, .int 0])), (m0, .inl (ct, 400, .inl f))] s.heap.size = A at hD ⊢
  have hA : ∀ q : Nat, s.heap.size ≤ q → A q := fun q h => by rw [← hAe]; exact Or.inr h
  have hS : va_S A s.heap s.heap [] := va_S.rf
  have hP : va_P D vwCl [(h0, .inr (9, [.ref m0, .int (nI n), .int 0, .int 0, .ref m4, .ref m5, .ref m6, .ref m7, .ref m8, .ref m9, .ref m10, .ref m11, .ref m12, .int 0, .int 0, .ref m15, .ref m16, .ref m17, .ref m18, .ref m19, .ref m20, .int 0, .int (-1), .ref m23, .ref m24, .int 0, .int 0, .int 0, .ref m28, .int 0, .int 0, .int 0, .ref m32, .ref m33, .ref m34, .int 0, .ref m36, .ref m37, .ref m38, .ref m39, .ref m40, .ref m41, .ref m42, .int 0])), (m0, .inl (ct, 400, .inl f))] s.heap := hP
  have hin9 : ∀ w ∈ u_ws RX9 TX9 44, w ∈ wsX9_put := (fun _ h9 => List.mem_cons_of_mem _ ((List.mem_append_right _ h9)))
  have hl := lv_entry ([.ref h0, .int a1]) (n := 3) (Nat.le_of_ble_eq_true rfl)
  rw [lg_entry_eq]
  generalize (lg_sl ([.ref h0, .int a1]) ++ List.replicate (3 - (lg_sl ([.ref h0, .int a1])).length) Slot.unset).toArray = ls at hl ⊢
  have hl : lv_has ls 3 [(0, .ref h0), (1, .int a1)] := hl
  refine lv_bipush (v := 24) hx hb dX9_put_0 (by decide) ?_
  refine lv_istore_n (lv' := [(2, .int 24), (0, .ref h0), (1, .int a1)]) hx hb dX9_put_2 rfl hl (by decide) rfl (fun ls hl => ?_)
  refine lv_iload_n hx hb dX9_put_3 rfl (lv_at hl 0 rfl) ?_
  refine lv_if_lt (tgt := 39) hx hb dX9_put_4 (by decide) (fun c_1 => absurd c_1 (by decide)) (fun c_1 => ?_)
  refine lv_aload_n hx hb dX9_put_7 rfl (lv_at hl 1 rfl) ?_
  refine va_get (D := D) (ci := 9) (v := .ref m0) (C := RX9) (T := TX9) (N := 44) hx hb hts hin9 hown hK hP 0 rfl rfl 0 (by decide) (hts (.fieldLink RX9 7 "HoneyHouseModel" "tape" "[I") (List.mem_of_getElem? (i := 1) rfl)) (fun _ h9 => h9) rfl dX9_put_8 ?_
  refine lv_aload_n hx hb dX9_put_11 rfl (lv_at hl 1 rfl) ?_
  refine va_get (D := D) (ci := 9) (v := .int (nI n)) (C := RX9) (T := TX9) (N := 44) hx hb hts hin9 hown hK hP 0 rfl rfl 1 (by decide) (hts (.fieldLink RX9 13 "HoneyHouseModel" "taped" "I") (List.mem_of_getElem? (i := 2) rfl)) (fun _ h9 => h9) rfl dX9_put_12 ?_
  refine lv_iload_n hx hb dX9_put_15 rfl (lv_at hl 2 rfl) ?_
  refine lv_iload_n hx hb dX9_put_16 rfl (lv_at hl 0 rfl) ?_
  refine lv_ishr hx hb dX9_put_17 ?_
  refine lv_sipush (v := 255) hx hb dX9_put_18 (by decide) ?_
  refine lv_iand hx hb dX9_put_21 ?_
  refine va_iast (f := f) (n := 400) hx hb hK hP hD hS 1 0 rfl rfl (vp_in_nI (by omega) (by omega)) dX9_put_22 (fun H locs hP hD hS => ?_)
  have hP : va_P D vwCl [(h0, .inr (9, [.ref m0, .int (nI n), .int 0, .int 0, .ref m4, .ref m5, .ref m6, .ref m7, .ref m8, .ref m9, .ref m10, .ref m11, .ref m12, .int 0, .int 0, .ref m15, .ref m16, .ref m17, .ref m18, .ref m19, .ref m20, .int 0, .int (-1), .ref m23, .ref m24, .int 0, .int 0, .int 0, .ref m28, .int 0, .int 0, .int 0, .ref m32, .ref m33, .ref m34, .int 0, .ref m36, .ref m37, .ref m38, .ref m39, .ref m40, .ref m41, .ref m42, .int 0])), (m0, .inl (ct, 400, .inl (upd f (nI n).toNatClampNeg ((a1 >>> (24 &&& 31)) &&& 255))))] H := hP
  have hD : va_D A [(h0, .inr (9, [.ref m0, .int (nI n), .int 0, .int 0, .ref m4, .ref m5, .ref m6, .ref m7, .ref m8, .ref m9, .ref m10, .ref m11, .ref m12, .int 0, .int 0, .ref m15, .ref m16, .ref m17, .ref m18, .ref m19, .ref m20, .int 0, .int (-1), .ref m23, .ref m24, .int 0, .int 0, .int 0, .ref m28, .int 0, .int 0, .int 0, .ref m32, .ref m33, .ref m34, .int 0, .ref m36, .ref m37, .ref m38, .ref m39, .ref m40, .ref m41, .ref m42, .int 0])), (m0, .inl (ct, 400, .inl (upd f (nI n).toNatClampNeg ((a1 >>> (24 &&& 31)) &&& 255))))] := hD
  generalize upd f (nI n).toNatClampNeg ((a1 >>> (24 &&& 31)) &&& 255) = f_2 at hP hD
  have hP : va_P D vwCl [(h0, .inr (9, [.ref m0, .int (nI n), .int 0, .int 0, .ref m4, .ref m5, .ref m6, .ref m7, .ref m8, .ref m9, .ref m10, .ref m11, .ref m12, .int 0, .int 0, .ref m15, .ref m16, .ref m17, .ref m18, .ref m19, .ref m20, .int 0, .int (-1), .ref m23, .ref m24, .int 0, .int 0, .int 0, .ref m28, .int 0, .int 0, .int 0, .ref m32, .ref m33, .ref m34, .int 0, .ref m36, .ref m37, .ref m38, .ref m39, .ref m40, .ref m41, .ref m42, .int 0])), (m0, .inl (ct, 400, .inl f_2))] H := hP
  have hD : va_D A [(h0, .inr (9, [.ref m0, .int (nI n), .int 0, .int 0, .ref m4, .ref m5, .ref m6, .ref m7, .ref m8, .ref m9, .ref m10, .ref m11, .ref m12, .int 0, .int 0, .ref m15, .ref m16, .ref m17, .ref m18, .ref m19, .ref m20, .int 0, .int (-1), .ref m23, .ref m24, .int 0, .int 0, .int 0, .ref m28, .int 0, .int 0, .int 0, .ref m32, .ref m33, .ref m34, .int 0, .ref m36, .ref m37, .ref m38, .ref m39, .ref m40, .ref m41, .ref m42, .int 0])), (m0, .inl (ct, 400, .inl f_2))] := hD
  refine lv_aload_n hx hb dX9_put_23 rfl (lv_at hl 1 rfl) ?_
  refine lv_dup hx hb dX9_put_24 rfl ?_
  refine va_get (D := D) (ci := 9) (v := .int (nI n)) (C := RX9) (T := TX9) (N := 44) hx hb hts hin9 hown hK hP 0 rfl rfl 1 (by decide) (hts (.fieldLink RX9 13 "HoneyHouseModel" "taped" "I") (List.mem_of_getElem? (i := 2) rfl)) (fun _ h9 => h9) rfl dX9_put_25 ?_
  refine lv_iconst (v := 1) hx hb dX9_put_28 (by decide) ?_
  refine lv_iadd hx hb dX9_put_29 ?_
  refine tp_i (y := nI (n + 1)) (nI_1 _) ?_
  refine va_put (D := D) (ci := 9) (v := .int (nI (n + 1))) (ty := .int) (C := RX9) (T := TX9) (N := 44) hx hb hts hin9 tyX9 tyX9_ok nmX9 hown hK hP hD hS 0 rfl rfl 1 (by decide) (hts (.fieldLink RX9 13 "HoneyHouseModel" "taped" "I") (List.mem_of_getElem? (i := 2) rfl)) (fun _ h9 => h9) rfl (tyX9_ok 1 (by decide)) rfl rfl (Nat.le_of_ble_eq_true rfl) dX9_put_30 (fun H locs hP hD hS => ?_)
  have hP : va_P D vwCl [(h0, .inr (9, [.ref m0, .int (nI (n + 1)), .int 0, .int 0, .ref m4, .ref m5, .ref m6, .ref m7, .ref m8, .ref m9, .ref m10, .ref m11, .ref m12, .int 0, .int 0, .ref m15, .ref m16, .ref m17, .ref m18, .ref m19, .ref m20, .int 0, .int (-1), .ref m23, .ref m24, .int 0, .int 0, .int 0, .ref m28, .int 0, .int 0, .int 0, .ref m32, .ref m33, .ref m34, .int 0, .ref m36, .ref m37, .ref m38, .ref m39, .ref m40, .ref m41, .ref m42, .int 0])), (m0, .inl (ct, 400, .inl f_2))] H := hP
  have hD : va_D A [(h0, .inr (9, [.ref m0, .int (nI (n + 1)), .int 0, .int 0, .ref m4, .ref m5, .ref m6, .ref m7, .ref m8, .ref m9, .ref m10, .ref m11, .ref m12, .int 0, .int 0, .ref m15, .ref m16, .ref m17, .ref m18, .ref m19, .ref m20, .int 0, .int (-1), .ref m23, .ref m24, .int 0, .int 0, .int 0, .ref m28, .int 0, .int 0, .int 0, .ref m32, .ref m33, .ref m34, .int 0, .ref m36, .ref m37, .ref m38, .ref m39, .ref m40, .ref m41, .ref m42, .int 0])), (m0, .inl (ct, 400, .inl f_2))] := hD
  refine lv_iinc (v := 16) (lv' := [(2, .int 16), (0, .ref h0), (1, .int a1)]) hx hb dX9_put_33 hl (k := 0) rfl (by decide) (by decide) rfl (fun ls hl => ?_)
  refine lv_goto (tgt := 3) hx hb dX9_put_36 (by decide) ?_
  refine lv_iload_n hx hb dX9_put_3 rfl (lv_at hl 0 rfl) ?_
  refine lv_if_lt (tgt := 39) hx hb dX9_put_4 (by decide) (fun c_3 => absurd c_3 (by decide)) (fun c_3 => ?_)
  refine lv_aload_n hx hb dX9_put_7 rfl (lv_at hl 1 rfl) ?_
  refine va_get (D := D) (ci := 9) (v := .ref m0) (C := RX9) (T := TX9) (N := 44) hx hb hts hin9 hown hK hP 0 rfl rfl 0 (by decide) (hts (.fieldLink RX9 7 "HoneyHouseModel" "tape" "[I") (List.mem_of_getElem? (i := 1) rfl)) (fun _ h9 => h9) rfl dX9_put_8 ?_
  refine lv_aload_n hx hb dX9_put_11 rfl (lv_at hl 1 rfl) ?_
  refine va_get (D := D) (ci := 9) (v := .int (nI (n + 1))) (C := RX9) (T := TX9) (N := 44) hx hb hts hin9 hown hK hP 0 rfl rfl 1 (by decide) (hts (.fieldLink RX9 13 "HoneyHouseModel" "taped" "I") (List.mem_of_getElem? (i := 2) rfl)) (fun _ h9 => h9) rfl dX9_put_12 ?_
  refine lv_iload_n hx hb dX9_put_15 rfl (lv_at hl 2 rfl) ?_
  refine lv_iload_n hx hb dX9_put_16 rfl (lv_at hl 0 rfl) ?_
  refine lv_ishr hx hb dX9_put_17 ?_
  refine lv_sipush (v := 255) hx hb dX9_put_18 (by decide) ?_
  refine lv_iand hx hb dX9_put_21 ?_
  refine va_iast (f := f_2) (n := 400) hx hb hK hP hD hS 1 0 rfl rfl (vp_in_nI (by omega) (by omega)) dX9_put_22 (fun H locs hP hD hS => ?_)
  have hP : va_P D vwCl [(h0, .inr (9, [.ref m0, .int (nI (n + 1)), .int 0, .int 0, .ref m4, .ref m5, .ref m6, .ref m7, .ref m8, .ref m9, .ref m10, .ref m11, .ref m12, .int 0, .int 0, .ref m15, .ref m16, .ref m17, .ref m18, .ref m19, .ref m20, .int 0, .int (-1), .ref m23, .ref m24, .int 0, .int 0, .int 0, .ref m28, .int 0, .int 0, .int 0, .ref m32, .ref m33, .ref m34, .int 0, .ref m36, .ref m37, .ref m38, .ref m39, .ref m40, .ref m41, .ref m42, .int 0])), (m0, .inl (ct, 400, .inl (upd f_2 (nI (n + 1)).toNatClampNeg ((a1 >>> (16 &&& 31)) &&& 255))))] H := hP
  have hD : va_D A [(h0, .inr (9, [.ref m0, .int (nI (n + 1)), .int 0, .int 0, .ref m4, .ref m5, .ref m6, .ref m7, .ref m8, .ref m9, .ref m10, .ref m11, .ref m12, .int 0, .int 0, .ref m15, .ref m16, .ref m17, .ref m18, .ref m19, .ref m20, .int 0, .int (-1), .ref m23, .ref m24, .int 0, .int 0, .int 0, .ref m28, .int 0, .int 0, .int 0, .ref m32, .ref m33, .ref m34, .int 0, .ref m36, .ref m37, .ref m38, .ref m39, .ref m40, .ref m41, .ref m42, .int 0])), (m0, .inl (ct, 400, .inl (upd f_2 (nI (n + 1)).toNatClampNeg ((a1 >>> (16 &&& 31)) &&& 255))))] := hD
  generalize upd f_2 (nI (n + 1)).toNatClampNeg ((a1 >>> (16 &&& 31)) &&& 255) = f_4 at hP hD
  have hP : va_P D vwCl [(h0, .inr (9, [.ref m0, .int (nI (n + 1)), .int 0, .int 0, .ref m4, .ref m5, .ref m6, .ref m7, .ref m8, .ref m9, .ref m10, .ref m11, .ref m12, .int 0, .int 0, .ref m15, .ref m16, .ref m17, .ref m18, .ref m19, .ref m20, .int 0, .int (-1), .ref m23, .ref m24, .int 0, .int 0, .int 0, .ref m28, .int 0, .int 0, .int 0, .ref m32, .ref m33, .ref m34, .int 0, .ref m36, .ref m37, .ref m38, .ref m39, .ref m40, .ref m41, .ref m42, .int 0])), (m0, .inl (ct, 400, .inl f_4))] H := hP
  have hD : va_D A [(h0, .inr (9, [.ref m0, .int (nI (n + 1)), .int 0, .int 0, .ref m4, .ref m5, .ref m6, .ref m7, .ref m8, .ref m9, .ref m10, .ref m11, .ref m12, .int 0, .int 0, .ref m15, .ref m16, .ref m17, .ref m18, .ref m19, .ref m20, .int 0, .int (-1), .ref m23, .ref m24, .int 0, .int 0, .int 0, .ref m28, .int 0, .int 0, .int 0, .ref m32, .ref m33, .ref m34, .int 0, .ref m36, .ref m37, .ref m38, .ref m39, .ref m40, .ref m41, .ref m42, .int 0])), (m0, .inl (ct, 400, .inl f_4))] := hD
  refine lv_aload_n hx hb dX9_put_23 rfl (lv_at hl 1 rfl) ?_
  refine lv_dup hx hb dX9_put_24 rfl ?_
  refine va_get (D := D) (ci := 9) (v := .int (nI (n + 1))) (C := RX9) (T := TX9) (N := 44) hx hb hts hin9 hown hK hP 0 rfl rfl 1 (by decide) (hts (.fieldLink RX9 13 "HoneyHouseModel" "taped" "I") (List.mem_of_getElem? (i := 2) rfl)) (fun _ h9 => h9) rfl dX9_put_25 ?_
  refine lv_iconst (v := 1) hx hb dX9_put_28 (by decide) ?_
  refine lv_iadd hx hb dX9_put_29 ?_
  refine tp_i (y := nI (n + 1 + 1)) (nI_1 _) ?_
  refine va_put (D := D) (ci := 9) (v := .int (nI (n + 1 + 1))) (ty := .int) (C := RX9) (T := TX9) (N := 44) hx hb hts hin9 tyX9 tyX9_ok nmX9 hown hK hP hD hS 0 rfl rfl 1 (by decide) (hts (.fieldLink RX9 13 "HoneyHouseModel" "taped" "I") (List.mem_of_getElem? (i := 2) rfl)) (fun _ h9 => h9) rfl (tyX9_ok 1 (by decide)) rfl rfl (Nat.le_of_ble_eq_true rfl) dX9_put_30 (fun H locs hP hD hS => ?_)
  have hP : va_P D vwCl [(h0, .inr (9, [.ref m0, .int (nI (n + 1 + 1)), .int 0, .int 0, .ref m4, .ref m5, .ref m6, .ref m7, .ref m8, .ref m9, .ref m10, .ref m11, .ref m12, .int 0, .int 0, .ref m15, .ref m16, .ref m17, .ref m18, .ref m19, .ref m20, .int 0, .int (-1), .ref m23, .ref m24, .int 0, .int 0, .int 0, .ref m28, .int 0, .int 0, .int 0, .ref m32, .ref m33, .ref m34, .int 0, .ref m36, .ref m37, .ref m38, .ref m39, .ref m40, .ref m41, .ref m42, .int 0])), (m0, .inl (ct, 400, .inl f_4))] H := hP
  have hD : va_D A [(h0, .inr (9, [.ref m0, .int (nI (n + 1 + 1)), .int 0, .int 0, .ref m4, .ref m5, .ref m6, .ref m7, .ref m8, .ref m9, .ref m10, .ref m11, .ref m12, .int 0, .int 0, .ref m15, .ref m16, .ref m17, .ref m18, .ref m19, .ref m20, .int 0, .int (-1), .ref m23, .ref m24, .int 0, .int 0, .int 0, .ref m28, .int 0, .int 0, .int 0, .ref m32, .ref m33, .ref m34, .int 0, .ref m36, .ref m37, .ref m38, .ref m39, .ref m40, .ref m41, .ref m42, .int 0])), (m0, .inl (ct, 400, .inl f_4))] := hD
  refine lv_iinc (v := 8) (lv' := [(2, .int 8), (0, .ref h0), (1, .int a1)]) hx hb dX9_put_33 hl (k := 0) rfl (by decide) (by decide) rfl (fun ls hl => ?_)
  refine lv_goto (tgt := 3) hx hb dX9_put_36 (by decide) ?_
  refine lv_iload_n hx hb dX9_put_3 rfl (lv_at hl 0 rfl) ?_
  refine lv_if_lt (tgt := 39) hx hb dX9_put_4 (by decide) (fun c_5 => absurd c_5 (by decide)) (fun c_5 => ?_)
  refine lv_aload_n hx hb dX9_put_7 rfl (lv_at hl 1 rfl) ?_
  refine va_get (D := D) (ci := 9) (v := .ref m0) (C := RX9) (T := TX9) (N := 44) hx hb hts hin9 hown hK hP 0 rfl rfl 0 (by decide) (hts (.fieldLink RX9 7 "HoneyHouseModel" "tape" "[I") (List.mem_of_getElem? (i := 1) rfl)) (fun _ h9 => h9) rfl dX9_put_8 ?_
  refine lv_aload_n hx hb dX9_put_11 rfl (lv_at hl 1 rfl) ?_
  refine va_get (D := D) (ci := 9) (v := .int (nI (n + 1 + 1))) (C := RX9) (T := TX9) (N := 44) hx hb hts hin9 hown hK hP 0 rfl rfl 1 (by decide) (hts (.fieldLink RX9 13 "HoneyHouseModel" "taped" "I") (List.mem_of_getElem? (i := 2) rfl)) (fun _ h9 => h9) rfl dX9_put_12 ?_
  refine lv_iload_n hx hb dX9_put_15 rfl (lv_at hl 2 rfl) ?_
  refine lv_iload_n hx hb dX9_put_16 rfl (lv_at hl 0 rfl) ?_
  refine lv_ishr hx hb dX9_put_17 ?_
  refine lv_sipush (v := 255) hx hb dX9_put_18 (by decide) ?_
  refine lv_iand hx hb dX9_put_21 ?_
  refine va_iast (f := f_4) (n := 400) hx hb hK hP hD hS 1 0 rfl rfl (vp_in_nI (by omega) (by omega)) dX9_put_22 (fun H locs hP hD hS => ?_)
  have hP : va_P D vwCl [(h0, .inr (9, [.ref m0, .int (nI (n + 1 + 1)), .int 0, .int 0, .ref m4, .ref m5, .ref m6, .ref m7, .ref m8, .ref m9, .ref m10, .ref m11, .ref m12, .int 0, .int 0, .ref m15, .ref m16, .ref m17, .ref m18, .ref m19, .ref m20, .int 0, .int (-1), .ref m23, .ref m24, .int 0, .int 0, .int 0, .ref m28, .int 0, .int 0, .int 0, .ref m32, .ref m33, .ref m34, .int 0, .ref m36, .ref m37, .ref m38, .ref m39, .ref m40, .ref m41, .ref m42, .int 0])), (m0, .inl (ct, 400, .inl (upd f_4 (nI (n + 1 + 1)).toNatClampNeg ((a1 >>> (8 &&& 31)) &&& 255))))] H := hP
  have hD : va_D A [(h0, .inr (9, [.ref m0, .int (nI (n + 1 + 1)), .int 0, .int 0, .ref m4, .ref m5, .ref m6, .ref m7, .ref m8, .ref m9, .ref m10, .ref m11, .ref m12, .int 0, .int 0, .ref m15, .ref m16, .ref m17, .ref m18, .ref m19, .ref m20, .int 0, .int (-1), .ref m23, .ref m24, .int 0, .int 0, .int 0, .ref m28, .int 0, .int 0, .int 0, .ref m32, .ref m33, .ref m34, .int 0, .ref m36, .ref m37, .ref m38, .ref m39, .ref m40, .ref m41, .ref m42, .int 0])), (m0, .inl (ct, 400, .inl (upd f_4 (nI (n + 1 + 1)).toNatClampNeg ((a1 >>> (8 &&& 31)) &&& 255))))] := hD
  generalize upd f_4 (nI (n + 1 + 1)).toNatClampNeg ((a1 >>> (8 &&& 31)) &&& 255) = f_6 at hP hD
  have hP : va_P D vwCl [(h0, .inr (9, [.ref m0, .int (nI (n + 1 + 1)), .int 0, .int 0, .ref m4, .ref m5, .ref m6, .ref m7, .ref m8, .ref m9, .ref m10, .ref m11, .ref m12, .int 0, .int 0, .ref m15, .ref m16, .ref m17, .ref m18, .ref m19, .ref m20, .int 0, .int (-1), .ref m23, .ref m24, .int 0, .int 0, .int 0, .ref m28, .int 0, .int 0, .int 0, .ref m32, .ref m33, .ref m34, .int 0, .ref m36, .ref m37, .ref m38, .ref m39, .ref m40, .ref m41, .ref m42, .int 0])), (m0, .inl (ct, 400, .inl f_6))] H := hP
  have hD : va_D A [(h0, .inr (9, [.ref m0, .int (nI (n + 1 + 1)), .int 0, .int 0, .ref m4, .ref m5, .ref m6, .ref m7, .ref m8, .ref m9, .ref m10, .ref m11, .ref m12, .int 0, .int 0, .ref m15, .ref m16, .ref m17, .ref m18, .ref m19, .ref m20, .int 0, .int (-1), .ref m23, .ref m24, .int 0, .int 0, .int 0, .ref m28, .int 0, .int 0, .int 0, .ref m32, .ref m33, .ref m34, .int 0, .ref m36, .ref m37, .ref m38, .ref m39, .ref m40, .ref m41, .ref m42, .int 0])), (m0, .inl (ct, 400, .inl f_6))] := hD
  refine lv_aload_n hx hb dX9_put_23 rfl (lv_at hl 1 rfl) ?_
  refine lv_dup hx hb dX9_put_24 rfl ?_
  refine va_get (D := D) (ci := 9) (v := .int (nI (n + 1 + 1))) (C := RX9) (T := TX9) (N := 44) hx hb hts hin9 hown hK hP 0 rfl rfl 1 (by decide) (hts (.fieldLink RX9 13 "HoneyHouseModel" "taped" "I") (List.mem_of_getElem? (i := 2) rfl)) (fun _ h9 => h9) rfl dX9_put_25 ?_
  refine lv_iconst (v := 1) hx hb dX9_put_28 (by decide) ?_
  refine lv_iadd hx hb dX9_put_29 ?_
  refine tp_i (y := nI (n + 1 + 1 + 1)) (nI_1 _) ?_
  refine va_put (D := D) (ci := 9) (v := .int (nI (n + 1 + 1 + 1))) (ty := .int) (C := RX9) (T := TX9) (N := 44) hx hb hts hin9 tyX9 tyX9_ok nmX9 hown hK hP hD hS 0 rfl rfl 1 (by decide) (hts (.fieldLink RX9 13 "HoneyHouseModel" "taped" "I") (List.mem_of_getElem? (i := 2) rfl)) (fun _ h9 => h9) rfl (tyX9_ok 1 (by decide)) rfl rfl (Nat.le_of_ble_eq_true rfl) dX9_put_30 (fun H locs hP hD hS => ?_)
  have hP : va_P D vwCl [(h0, .inr (9, [.ref m0, .int (nI (n + 1 + 1 + 1)), .int 0, .int 0, .ref m4, .ref m5, .ref m6, .ref m7, .ref m8, .ref m9, .ref m10, .ref m11, .ref m12, .int 0, .int 0, .ref m15, .ref m16, .ref m17, .ref m18, .ref m19, .ref m20, .int 0, .int (-1), .ref m23, .ref m24, .int 0, .int 0, .int 0, .ref m28, .int 0, .int 0, .int 0, .ref m32, .ref m33, .ref m34, .int 0, .ref m36, .ref m37, .ref m38, .ref m39, .ref m40, .ref m41, .ref m42, .int 0])), (m0, .inl (ct, 400, .inl f_6))] H := hP
  have hD : va_D A [(h0, .inr (9, [.ref m0, .int (nI (n + 1 + 1 + 1)), .int 0, .int 0, .ref m4, .ref m5, .ref m6, .ref m7, .ref m8, .ref m9, .ref m10, .ref m11, .ref m12, .int 0, .int 0, .ref m15, .ref m16, .ref m17, .ref m18, .ref m19, .ref m20, .int 0, .int (-1), .ref m23, .ref m24, .int 0, .int 0, .int 0, .ref m28, .int 0, .int 0, .int 0, .ref m32, .ref m33, .ref m34, .int 0, .ref m36, .ref m37, .ref m38, .ref m39, .ref m40, .ref m41, .ref m42, .int 0])), (m0, .inl (ct, 400, .inl f_6))] := hD
  refine lv_iinc (v := 0) (lv' := [(2, .int 0), (0, .ref h0), (1, .int a1)]) hx hb dX9_put_33 hl (k := 0) rfl (by decide) (by decide) rfl (fun ls hl => ?_)
  refine lv_goto (tgt := 3) hx hb dX9_put_36 (by decide) ?_
  refine lv_iload_n hx hb dX9_put_3 rfl (lv_at hl 0 rfl) ?_
  refine lv_if_lt (tgt := 39) hx hb dX9_put_4 (by decide) (fun c_7 => absurd c_7 (by decide)) (fun c_7 => ?_)
  refine lv_aload_n hx hb dX9_put_7 rfl (lv_at hl 1 rfl) ?_
  refine va_get (D := D) (ci := 9) (v := .ref m0) (C := RX9) (T := TX9) (N := 44) hx hb hts hin9 hown hK hP 0 rfl rfl 0 (by decide) (hts (.fieldLink RX9 7 "HoneyHouseModel" "tape" "[I") (List.mem_of_getElem? (i := 1) rfl)) (fun _ h9 => h9) rfl dX9_put_8 ?_
  refine lv_aload_n hx hb dX9_put_11 rfl (lv_at hl 1 rfl) ?_
  refine va_get (D := D) (ci := 9) (v := .int (nI (n + 1 + 1 + 1))) (C := RX9) (T := TX9) (N := 44) hx hb hts hin9 hown hK hP 0 rfl rfl 1 (by decide) (hts (.fieldLink RX9 13 "HoneyHouseModel" "taped" "I") (List.mem_of_getElem? (i := 2) rfl)) (fun _ h9 => h9) rfl dX9_put_12 ?_
  refine lv_iload_n hx hb dX9_put_15 rfl (lv_at hl 2 rfl) ?_
  refine lv_iload_n hx hb dX9_put_16 rfl (lv_at hl 0 rfl) ?_
  refine lv_ishr hx hb dX9_put_17 ?_
  refine lv_sipush (v := 255) hx hb dX9_put_18 (by decide) ?_
  refine lv_iand hx hb dX9_put_21 ?_
  refine va_iast (f := f_6) (n := 400) hx hb hK hP hD hS 1 0 rfl rfl (vp_in_nI (by omega) (by omega)) dX9_put_22 (fun H locs hP hD hS => ?_)
  have hP : va_P D vwCl [(h0, .inr (9, [.ref m0, .int (nI (n + 1 + 1 + 1)), .int 0, .int 0, .ref m4, .ref m5, .ref m6, .ref m7, .ref m8, .ref m9, .ref m10, .ref m11, .ref m12, .int 0, .int 0, .ref m15, .ref m16, .ref m17, .ref m18, .ref m19, .ref m20, .int 0, .int (-1), .ref m23, .ref m24, .int 0, .int 0, .int 0, .ref m28, .int 0, .int 0, .int 0, .ref m32, .ref m33, .ref m34, .int 0, .ref m36, .ref m37, .ref m38, .ref m39, .ref m40, .ref m41, .ref m42, .int 0])), (m0, .inl (ct, 400, .inl (upd f_6 (nI (n + 1 + 1 + 1)).toNatClampNeg ((a1 >>> (0 &&& 31)) &&& 255))))] H := hP
  have hD : va_D A [(h0, .inr (9, [.ref m0, .int (nI (n + 1 + 1 + 1)), .int 0, .int 0, .ref m4, .ref m5, .ref m6, .ref m7, .ref m8, .ref m9, .ref m10, .ref m11, .ref m12, .int 0, .int 0, .ref m15, .ref m16, .ref m17, .ref m18, .ref m19, .ref m20, .int 0, .int (-1), .ref m23, .ref m24, .int 0, .int 0, .int 0, .ref m28, .int 0, .int 0, .int 0, .ref m32, .ref m33, .ref m34, .int 0, .ref m36, .ref m37, .ref m38, .ref m39, .ref m40, .ref m41, .ref m42, .int 0])), (m0, .inl (ct, 400, .inl (upd f_6 (nI (n + 1 + 1 + 1)).toNatClampNeg ((a1 >>> (0 &&& 31)) &&& 255))))] := hD
  generalize upd f_6 (nI (n + 1 + 1 + 1)).toNatClampNeg ((a1 >>> (0 &&& 31)) &&& 255) = f_8 at hP hD
  have hP : va_P D vwCl [(h0, .inr (9, [.ref m0, .int (nI (n + 1 + 1 + 1)), .int 0, .int 0, .ref m4, .ref m5, .ref m6, .ref m7, .ref m8, .ref m9, .ref m10, .ref m11, .ref m12, .int 0, .int 0, .ref m15, .ref m16, .ref m17, .ref m18, .ref m19, .ref m20, .int 0, .int (-1), .ref m23, .ref m24, .int 0, .int 0, .int 0, .ref m28, .int 0, .int 0, .int 0, .ref m32, .ref m33, .ref m34, .int 0, .ref m36, .ref m37, .ref m38, .ref m39, .ref m40, .ref m41, .ref m42, .int 0])), (m0, .inl (ct, 400, .inl f_8))] H := hP
  have hD : va_D A [(h0, .inr (9, [.ref m0, .int (nI (n + 1 + 1 + 1)), .int 0, .int 0, .ref m4, .ref m5, .ref m6, .ref m7, .ref m8, .ref m9, .ref m10, .ref m11, .ref m12, .int 0, .int 0, .ref m15, .ref m16, .ref m17, .ref m18, .ref m19, .ref m20, .int 0, .int (-1), .ref m23, .ref m24, .int 0, .int 0, .int 0, .ref m28, .int 0, .int 0, .int 0, .ref m32, .ref m33, .ref m34, .int 0, .ref m36, .ref m37, .ref m38, .ref m39, .ref m40, .ref m41, .ref m42, .int 0])), (m0, .inl (ct, 400, .inl f_8))] := hD
  refine lv_aload_n hx hb dX9_put_23 rfl (lv_at hl 1 rfl) ?_
  refine lv_dup hx hb dX9_put_24 rfl ?_
  refine va_get (D := D) (ci := 9) (v := .int (nI (n + 1 + 1 + 1))) (C := RX9) (T := TX9) (N := 44) hx hb hts hin9 hown hK hP 0 rfl rfl 1 (by decide) (hts (.fieldLink RX9 13 "HoneyHouseModel" "taped" "I") (List.mem_of_getElem? (i := 2) rfl)) (fun _ h9 => h9) rfl dX9_put_25 ?_
  refine lv_iconst (v := 1) hx hb dX9_put_28 (by decide) ?_
  refine lv_iadd hx hb dX9_put_29 ?_
  refine tp_i (y := nI (n + 1 + 1 + 1 + 1)) (nI_1 _) ?_
  refine va_put (D := D) (ci := 9) (v := .int (nI (n + 1 + 1 + 1 + 1))) (ty := .int) (C := RX9) (T := TX9) (N := 44) hx hb hts hin9 tyX9 tyX9_ok nmX9 hown hK hP hD hS 0 rfl rfl 1 (by decide) (hts (.fieldLink RX9 13 "HoneyHouseModel" "taped" "I") (List.mem_of_getElem? (i := 2) rfl)) (fun _ h9 => h9) rfl (tyX9_ok 1 (by decide)) rfl rfl (Nat.le_of_ble_eq_true rfl) dX9_put_30 (fun H locs hP hD hS => ?_)
  have hP : va_P D vwCl [(h0, .inr (9, [.ref m0, .int (nI (n + 1 + 1 + 1 + 1)), .int 0, .int 0, .ref m4, .ref m5, .ref m6, .ref m7, .ref m8, .ref m9, .ref m10, .ref m11, .ref m12, .int 0, .int 0, .ref m15, .ref m16, .ref m17, .ref m18, .ref m19, .ref m20, .int 0, .int (-1), .ref m23, .ref m24, .int 0, .int 0, .int 0, .ref m28, .int 0, .int 0, .int 0, .ref m32, .ref m33, .ref m34, .int 0, .ref m36, .ref m37, .ref m38, .ref m39, .ref m40, .ref m41, .ref m42, .int 0])), (m0, .inl (ct, 400, .inl f_8))] H := hP
  have hD : va_D A [(h0, .inr (9, [.ref m0, .int (nI (n + 1 + 1 + 1 + 1)), .int 0, .int 0, .ref m4, .ref m5, .ref m6, .ref m7, .ref m8, .ref m9, .ref m10, .ref m11, .ref m12, .int 0, .int 0, .ref m15, .ref m16, .ref m17, .ref m18, .ref m19, .ref m20, .int 0, .int (-1), .ref m23, .ref m24, .int 0, .int 0, .int 0, .ref m28, .int 0, .int 0, .int 0, .ref m32, .ref m33, .ref m34, .int 0, .ref m36, .ref m37, .ref m38, .ref m39, .ref m40, .ref m41, .ref m42, .int 0])), (m0, .inl (ct, 400, .inl f_8))] := hD
  refine lv_iinc (v := (-8)) (lv' := [(2, .int (-8)), (0, .ref h0), (1, .int a1)]) hx hb dX9_put_33 hl (k := 0) rfl (by decide) (by decide) rfl (fun ls hl => ?_)
  refine lv_goto (tgt := 3) hx hb dX9_put_36 (by decide) ?_
  refine lv_iload_n hx hb dX9_put_3 rfl (lv_at hl 0 rfl) ?_
  refine lv_if_lt (tgt := 39) hx hb dX9_put_4 (by decide) (fun c_9 => ?_) (fun c_9 => absurd (by decide) c_9)
  have hP9 := hP.sub (ws' := [(h0, .inr (9, [.ref m0, .int (nI (n + 1 + 1 + 1 + 1)), .int 0, .int 0, .ref m4, .ref m5, .ref m6, .ref m7, .ref m8, .ref m9, .ref m10, .ref m11, .ref m12, .int 0, .int 0, .ref m15, .ref m16, .ref m17, .ref m18, .ref m19, .ref m20, .int 0, .int (-1), .ref m23, .ref m24, .int 0, .int 0, .int 0, .ref m28, .int 0, .int 0, .int 0, .ref m32, .ref m33, .ref m34, .int 0, .ref m36, .ref m37, .ref m38, .ref m39, .ref m40, .ref m41, .ref m42, .int 0])), (m0, .inl (ct, 400, .inl f_8))]) [0, 1] rfl
  have hD9 := hD.sub (ws' := [(h0, .inr (9, [.ref m0, .int (nI (n + 1 + 1 + 1 + 1)), .int 0, .int 0, .ref m4, .ref m5, .ref m6, .ref m7, .ref m8, .ref m9, .ref m10, .ref m11, .ref m12, .int 0, .int 0, .ref m15, .ref m16, .ref m17, .ref m18, .ref m19, .ref m20, .int 0, .int (-1), .ref m23, .ref m24, .int 0, .int 0, .int 0, .ref m28, .int 0, .int 0, .int 0, .ref m32, .ref m33, .ref m34, .int 0, .ref m36, .ref m37, .ref m38, .ref m39, .ref m40, .ref m41, .ref m42, .int 0])), (m0, .inl (ct, 400, .inl f_8))]) [0, 1] (by decide) rfl
  have hK9 := hK.sub (tys' := [(ct, .int)]) [0] rfl
  refine W.widen (k := 0) (n := 0) (by omega) (by omega) ?_
  exact W.vret hx hb hr (fun t ht hW => ⟨⟨(), rfl, trivial, f_8, by rw [ht]; exact hP9, va_K.moved hW.alike hK9, hD9⟩, hS.F ht⟩) hS.2.2 dX9_put_39
set_option maxHeartbeats 4000000 in
set_option maxRecDepth 100000 in
theorem q_X9_feed (l : Launch) (D : va_G) (h0 m0 m4 m5 m6 m7 m8 m9 m10 m11 m12 m15 m16 m17 m18 m19 m20 m23 m24 m28 m32 m33 m34 m36 m37 m38 m39 m40 m41 m42 : Nat) (ct : ClassId) (a1 a2 a3 a4 a5 : Int32) (sz : Nat)  : Met l yX9_feed wsX9_feed ({ frames := 1, cells := 0, slots := 0, locals := 22 }) (va_Pc [.ref h0, .int a1, .int a2, .int a3, .int a4, .int a5] (fun U => U.heap.size = sz ∧ va_P D vwCl [(h0, .inr (9, [.ref m0, .int 0, .int 0, .int 0, .ref m4, .ref m5, .ref m6, .ref m7, .ref m8, .ref m9, .ref m10, .ref m11, .ref m12, .int 0, .int 0, .ref m15, .ref m16, .ref m17, .ref m18, .ref m19, .ref m20, .int 0, .int (-1), .ref m23, .ref m24, .int 0, .int 0, .int 0, .ref m28, .int 0, .int 0, .int 0, .ref m32, .ref m33, .ref m34, .int 0, .ref m36, .ref m37, .ref m38, .ref m39, .ref m40, .ref m41, .ref m42, .int 0])), (m0, .inl (ct, 400, .inl (fun _ => 0)))] U.heap ∧ va_K D vwCl [(ct, .int)] U ∧ va_D (fun _ => True) [(h0, .inr (9, [.ref m0, .int 0, .int 0, .int 0, .ref m4, .ref m5, .ref m6, .ref m7, .ref m8, .ref m9, .ref m10, .ref m11, .ref m12, .int 0, .int 0, .ref m15, .ref m16, .ref m17, .ref m18, .ref m19, .ref m20, .int 0, .int (-1), .ref m23, .ref m24, .int 0, .int 0, .int 0, .ref m28, .int 0, .int 0, .int 0, .ref m32, .ref m33, .ref m34, .int 0, .ref m36, .ref m37, .ref m38, .ref m39, .ref m40, .ref m41, .ref m42, .int 0])), (m0, .inl (ct, 400, .inl (fun _ => 0)))])) (va_Qi (fun (r : Int32) (_ : Unit) => r = 20) (fun (_ : Unit) (t : State) => va_P D vwCl [] t.heap ∧ va_K D vwCl [] t ∧ va_D (va_A [(h0, .inr (9, [.ref m0, .int 0, .int 0, .int 0, .ref m4, .ref m5, .ref m6, .ref m7, .ref m8, .ref m9, .ref m10, .ref m11, .ref m12, .int 0, .int 0, .ref m15, .ref m16, .ref m17, .ref m18, .ref m19, .ref m20, .int 0, .int (-1), .ref m23, .ref m24, .int 0, .int 0, .int 0, .ref m28, .int 0, .int 0, .int 0, .ref m32, .ref m33, .ref m34, .int 0, .ref m36, .ref m37, .ref m38, .ref m39, .ref m40, .ref m41, .ref m42, .int 0])), (m0, .inl (ct, 400, .inl (fun _ => 0)))] sz) []) (va_A [(h0, .inr (9, [.ref m0, .int 0, .int 0, .int 0, .ref m4, .ref m5, .ref m6, .ref m7, .ref m8, .ref m9, .ref m10, .ref m11, .ref m12, .int 0, .int 0, .ref m15, .ref m16, .ref m17, .ref m18, .ref m19, .ref m20, .int 0, .int (-1), .ref m23, .ref m24, .int 0, .int 0, .int 0, .ref m28, .int 0, .int 0, .int 0, .ref m32, .ref m33, .ref m34, .int 0, .ref m36, .ref m37, .ref m38, .ref m39, .ref m40, .ref m41, .ref m42, .int 0])), (m0, .inl (ct, 400, .inl (fun _ => 0)))] sz)) 0 0 (va_A [(h0, .inr (9, [.ref m0, .int 0, .int 0, .int 0, .ref m4, .ref m5, .ref m6, .ref m7, .ref m8, .ref m9, .ref m10, .ref m11, .ref m12, .int 0, .int 0, .ref m15, .ref m16, .ref m17, .ref m18, .ref m19, .ref m20, .int 0, .int (-1), .ref m23, .ref m24, .int 0, .int 0, .int 0, .ref m28, .int 0, .int 0, .int 0, .ref m32, .ref m33, .ref m34, .int 0, .ref m36, .ref m37, .ref m38, .ref m39, .ref m40, .ref m41, .ref m42, .int 0])), (m0, .inl (ct, 400, .inl (fun _ => 0)))] sz) := by
  refine Met.ofW (cc := cX9_feed) (maxL := 6) (ret := (some .int)) (by decide) rfl ?_
  intro p e s m args below meth c s₁ B hml hv
  obtain ⟨rfl, hsz, hP, hK, hD0⟩ := hv
  have hx := B.exec
  have hb := B.bytes
  have hr := B.returns
  have hts := atoms_spec (ws := wsX9_feed) B.pre
  have hown : s.vm.findClass RX9 = some m.cls := findClass_of_methodNamed B.named
  have hlocks := B.notSynchronized
  subst hsz
  have hD := hD0.self (sz := s.heap.size)
  generalize hAe : va_A [(h0, .inr (9, [.ref m0, .int 0, .int 0, .int 0, .ref m4, .ref m5, .ref m6, .ref m7, .ref m8, .ref m9, .ref m10, .ref m11, .ref m12, .int 0, .int 0, .ref m15, .ref m16, .ref m17, .ref m18, .ref m19, .ref m20, .int 0, .int (-1), .ref m23, .ref m24, .int 0, .int 0, .int 0, .ref m28, .int 0, .int 0, .int 0, .ref m32, .ref m33, .ref m34, .int 0, .ref m36, .ref m37, .ref m38, .ref m39, .ref m40, .ref m41, .ref m42, .int 0])), (m0, .inl (ct, 400, .inl (fun _ => 0)))] s.heap.size = A at hD ⊢
  have hA : ∀ q : Nat, s.heap.size ≤ q → A q := fun q h => by rw [← hAe]; exact Or.inr h
  have hS : va_S A s.heap s.heap [] := va_S.rf
  have hP : va_P D vwCl [(h0, .inr (9, [.ref m0, .int 0, .int 0, .int 0, .ref m4, .ref m5, .ref m6, .ref m7, .ref m8, .ref m9, .ref m10, .ref m11, .ref m12, .int 0, .int 0, .ref m15, .ref m16, .ref m17, .ref m18, .ref m19, .ref m20, .int 0, .int (-1), .ref m23, .ref m24, .int 0, .int 0, .int 0, .ref m28, .int 0, .int 0, .int 0, .ref m32, .ref m33, .ref m34, .int 0, .ref m36, .ref m37, .ref m38, .ref m39, .ref m40, .ref m41, .ref m42, .int 0])), (m0, .inl (ct, 400, .inl (fun _ => 0)))] s.heap := hP
  have hin9 : ∀ w ∈ u_ws RX9 TX9 44, w ∈ wsX9_feed := (fun _ h9 => List.mem_cons_of_mem _ ((List.mem_append_right _ h9)))
  have hl := lv_entry ([.ref h0, .int a1, .int a2, .int a3, .int a4, .int a5]) (n := 6) (Nat.le_of_ble_eq_true rfl)
  rw [lg_entry_eq]
  generalize (lg_sl ([.ref h0, .int a1, .int a2, .int a3, .int a4, .int a5]) ++ List.replicate (6 - (lg_sl ([.ref h0, .int a1, .int a2, .int a3, .int a4, .int a5])).length) Slot.unset).toArray = ls at hl ⊢
  have hl : lv_has ls 6 [(0, .ref h0), (1, .int a1), (2, .int a2), (3, .int a3), (4, .int a4), (5, .int a5)] := hl
  refine lv_aload_n hx hb dX9_feed_0 rfl (lv_at hl 0 rfl) ?_
  refine va_get (D := D) (ci := 9) (v := .int 0) (C := RX9) (T := TX9) (N := 44) hx hb hts hin9 hown hK hP 0 rfl rfl 1 (by decide) (hts (.fieldLink RX9 13 "HoneyHouseModel" "taped" "I") (List.mem_of_getElem? (i := 1) rfl)) (fun _ h9 => h9) rfl dX9_feed_1 ?_
  refine lv_bipush (v := 20) hx hb dX9_feed_4 (by decide) ?_
  refine lv_iadd hx hb dX9_feed_6 ?_
  refine tp_i (y := 20) (by decide) ?_
  refine lv_sipush (v := 400) hx hb dX9_feed_7 (by decide) ?_
  refine lv_icmp_le (tgt := 15) hx hb dX9_feed_10 (by decide) (fun c_1 => ?_) (fun c_1 => absurd (by decide) c_1)
  refine lv_aload_n hx hb dX9_feed_15 rfl (lv_at hl 0 rfl) ?_
  refine lv_iload_n hx hb dX9_feed_16 rfl (lv_at hl 1 rfl) ?_
  have hPc := hP.sub (ws' := [(h0, .inr (9, [.ref m0, .int 0, .int 0, .int 0, .ref m4, .ref m5, .ref m6, .ref m7, .ref m8, .ref m9, .ref m10, .ref m11, .ref m12, .int 0, .int 0, .ref m15, .ref m16, .ref m17, .ref m18, .ref m19, .ref m20, .int 0, .int (-1), .ref m23, .ref m24, .int 0, .int 0, .int 0, .ref m28, .int 0, .int 0, .int 0, .ref m32, .ref m33, .ref m34, .int 0, .ref m36, .ref m37, .ref m38, .ref m39, .ref m40, .ref m41, .ref m42, .int 0])), (m0, .inl (ct, 400, .inl (fun _ => 0)))]) [0, 1] rfl
  have hDc := hD.sub (ws' := [(h0, .inr (9, [.ref m0, .int 0, .int 0, .int 0, .ref m4, .ref m5, .ref m6, .ref m7, .ref m8, .ref m9, .ref m10, .ref m11, .ref m12, .int 0, .int 0, .ref m15, .ref m16, .ref m17, .ref m18, .ref m19, .ref m20, .int 0, .int (-1), .ref m23, .ref m24, .int 0, .int 0, .int 0, .ref m28, .int 0, .int 0, .int 0, .ref m32, .ref m33, .ref m34, .int 0, .ref m36, .ref m37, .ref m38, .ref m39, .ref m40, .ref m41, .ref m42, .int 0])), (m0, .inl (ct, 400, .inl (fun _ => 0)))]) [0, 1] (by decide) rfl
  have hKc := hK.sub (tys' := [(ct, .int)]) [0] rfl
  have hFc := va_free (wc := [(h0, .inr (9, [.ref m0, .int 0, .int 0, .int 0, .ref m4, .ref m5, .ref m6, .ref m7, .ref m8, .ref m9, .ref m10, .ref m11, .ref m12, .int 0, .int 0, .ref m15, .ref m16, .ref m17, .ref m18, .ref m19, .ref m20, .int 0, .int (-1), .ref m23, .ref m24, .int 0, .int 0, .int 0, .ref m28, .int 0, .int 0, .int 0, .ref m32, .ref m33, .ref m34, .int 0, .ref m36, .ref m37, .ref m38, .ref m39, .ref m40, .ref m41, .ref m42, .int 0])), (m0, .inl (ct, 400, .inl (fun _ => 0)))]) hD hS hA [0, 1] rfl
  refine va_callv (va_runV (As := [.int a1]) (rest := []) ⟨hx, hb, hml, hown, hts⟩ (q_X9_put l D h0 m0 m4 m5 m6 m7 m8 m9 m10 m11 m12 m15 m16 m17 m18 m19 m20 m23 m24 m28 m32 m33 m34 m36 m37 m38 m39 m40 m41 m42 ct 0 (fun _ => 0) a1 s.heap.size (by omega)) (cwV 1 hts gX9_feed_X9_put rfl rfl rfl (by decide +kernel) ⟨Nat.le_of_ble_eq_true rfl, Nat.le_of_ble_eq_true rfl⟩) ⟨fun a U g mk q => by obtain ⟨q0, q1, qP, qK, qD⟩ := q; exact ⟨q0, q1, qP, va_K.moved (u := U) (U := U.calling g mk a) (Vm.Alike.refl U.vm) qK, qD⟩, va_recv hKc hPc (ci := 9) (q0 := 0) rfl rfl, fun U hU hW => ⟨rfl, by rw [hU], by rw [hU]; exact hPc, va_K.moved hW.alike hKc, hDc.weaken (fun _ _ _ _ => trivial)⟩⟩ rfl rfl hl.1 rfl (lv_room (Nat.le_of_ble_eq_true rfl)) dX9_feed_17 ⟨Nat.le_of_ble_eq_true rfl, Nat.le_of_ble_eq_true rfl⟩) hS (fun q _ h => hFc q h) hFc (fun u t H1 locs ht hvm w_3 hB hz1 hk1 hS => ?_)
  obtain ⟨f_4, hP1, hK1, hD1⟩ := hB
  rw [ht] at hP1
  have hK1 := va_K.moved hvm.symm hK1
  obtain ⟨hP, hD⟩ := va_join (wr := []) (w1 := [(h0, .inr (9, [.ref m0, .int (nI 4), .int 0, .int 0, .ref m4, .ref m5, .ref m6, .ref m7, .ref m8, .ref m9, .ref m10, .ref m11, .ref m12, .int 0, .int 0, .ref m15, .ref m16, .ref m17, .ref m18, .ref m19, .ref m20, .int 0, .int (-1), .ref m23, .ref m24, .int 0, .int 0, .int 0, .ref m28, .int 0, .int 0, .int 0, .ref m32, .ref m33, .ref m34, .int 0, .ref m36, .ref m37, .ref m38, .ref m39, .ref m40, .ref m41, .ref m42, .int 0])), (m0, .inl (ct, 400, .inl f_4))]) hP hD [0, 1] [] rfl rfl (by decide) (by decide) hk1 hFc hP1 hD1
  have hK := hK.app hK1
  generalize H1 = H at hP hS ⊢
  have hP : va_P D vwCl [(h0, .inr (9, [.ref m0, .int (nI 4), .int 0, .int 0, .ref m4, .ref m5, .ref m6, .ref m7, .ref m8, .ref m9, .ref m10, .ref m11, .ref m12, .int 0, .int 0, .ref m15, .ref m16, .ref m17, .ref m18, .ref m19, .ref m20, .int 0, .int (-1), .ref m23, .ref m24, .int 0, .int 0, .int 0, .ref m28, .int 0, .int 0, .int 0, .ref m32, .ref m33, .ref m34, .int 0, .ref m36, .ref m37, .ref m38, .ref m39, .ref m40, .ref m41, .ref m42, .int 0])), (m0, .inl (ct, 400, .inl f_4))] H := hP
  have hD : va_D A [(h0, .inr (9, [.ref m0, .int (nI 4), .int 0, .int 0, .ref m4, .ref m5, .ref m6, .ref m7, .ref m8, .ref m9, .ref m10, .ref m11, .ref m12, .int 0, .int 0, .ref m15, .ref m16, .ref m17, .ref m18, .ref m19, .ref m20, .int 0, .int (-1), .ref m23, .ref m24, .int 0, .int 0, .int 0, .ref m28, .int 0, .int 0, .int 0, .ref m32, .ref m33, .ref m34, .int 0, .ref m36, .ref m37, .ref m38, .ref m39, .ref m40, .ref m41, .ref m42, .int 0])), (m0, .inl (ct, 400, .inl f_4))] := hD
  have hK : va_K D vwCl [(ct, .int), (ct, .int)] s := hK
  refine lv_aload_n hx hb dX9_feed_20 rfl (lv_at hl 0 rfl) ?_
  refine lv_iload_n hx hb dX9_feed_21 rfl (lv_at hl 2 rfl) ?_
  have hPc := hP.sub (ws' := [(h0, .inr (9, [.ref m0, .int (nI 4), .int 0, .int 0, .ref m4, .ref m5, .ref m6, .ref m7, .ref m8, .ref m9, .ref m10, .ref m11, .ref m12, .int 0, .int 0, .ref m15, .ref m16, .ref m17, .ref m18, .ref m19, .ref m20, .int 0, .int (-1), .ref m23, .ref m24, .int 0, .int 0, .int 0, .ref m28, .int 0, .int 0, .int 0, .ref m32, .ref m33, .ref m34, .int 0, .ref m36, .ref m37, .ref m38, .ref m39, .ref m40, .ref m41, .ref m42, .int 0])), (m0, .inl (ct, 400, .inl f_4))]) [0, 1] rfl
  have hDc := hD.sub (ws' := [(h0, .inr (9, [.ref m0, .int (nI 4), .int 0, .int 0, .ref m4, .ref m5, .ref m6, .ref m7, .ref m8, .ref m9, .ref m10, .ref m11, .ref m12, .int 0, .int 0, .ref m15, .ref m16, .ref m17, .ref m18, .ref m19, .ref m20, .int 0, .int (-1), .ref m23, .ref m24, .int 0, .int 0, .int 0, .ref m28, .int 0, .int 0, .int 0, .ref m32, .ref m33, .ref m34, .int 0, .ref m36, .ref m37, .ref m38, .ref m39, .ref m40, .ref m41, .ref m42, .int 0])), (m0, .inl (ct, 400, .inl f_4))]) [0, 1] (by decide) rfl
  have hKc := hK.sub (tys' := [(ct, .int)]) [0] rfl
  have hFc := va_free (wc := [(h0, .inr (9, [.ref m0, .int (nI 4), .int 0, .int 0, .ref m4, .ref m5, .ref m6, .ref m7, .ref m8, .ref m9, .ref m10, .ref m11, .ref m12, .int 0, .int 0, .ref m15, .ref m16, .ref m17, .ref m18, .ref m19, .ref m20, .int 0, .int (-1), .ref m23, .ref m24, .int 0, .int 0, .int 0, .ref m28, .int 0, .int 0, .int 0, .ref m32, .ref m33, .ref m34, .int 0, .ref m36, .ref m37, .ref m38, .ref m39, .ref m40, .ref m41, .ref m42, .int 0])), (m0, .inl (ct, 400, .inl f_4))]) hD hS hA [0, 1] rfl
  refine va_callv (va_runV (As := [.int a2]) (rest := []) ⟨hx, hb, hml, hown, hts⟩ (q_X9_put l D h0 m0 m4 m5 m6 m7 m8 m9 m10 m11 m12 m15 m16 m17 m18 m19 m20 m23 m24 m28 m32 m33 m34 m36 m37 m38 m39 m40 m41 m42 ct 4 f_4 a2 H.size (by omega)) (cwV 1 hts gX9_feed_X9_put rfl rfl rfl (by decide +kernel) ⟨Nat.le_of_ble_eq_true rfl, Nat.le_of_ble_eq_true rfl⟩) ⟨fun a U g mk q => by obtain ⟨q0, q1, qP, qK, qD⟩ := q; exact ⟨q0, q1, qP, va_K.moved (u := U) (U := U.calling g mk a) (Vm.Alike.refl U.vm) qK, qD⟩, va_recv hKc hPc (ci := 9) (q0 := 0) rfl rfl, fun U hU hW => ⟨rfl, by rw [hU], by rw [hU]; exact hPc, va_K.moved hW.alike hKc, hDc.weaken (fun _ _ _ _ => trivial)⟩⟩ rfl rfl hl.1 rfl (lv_room (Nat.le_of_ble_eq_true rfl)) dX9_feed_22 ⟨Nat.le_of_ble_eq_true rfl, Nat.le_of_ble_eq_true rfl⟩) hS (fun q _ h => hFc q h) hFc (fun u t H1 locs ht hvm w_6 hB hz1 hk1 hS => ?_)
  obtain ⟨f_7, hP1, hK1, hD1⟩ := hB
  rw [ht] at hP1
  have hK1 := va_K.moved hvm.symm hK1
  obtain ⟨hP, hD⟩ := va_join (wr := []) (w1 := [(h0, .inr (9, [.ref m0, .int (nI 8), .int 0, .int 0, .ref m4, .ref m5, .ref m6, .ref m7, .ref m8, .ref m9, .ref m10, .ref m11, .ref m12, .int 0, .int 0, .ref m15, .ref m16, .ref m17, .ref m18, .ref m19, .ref m20, .int 0, .int (-1), .ref m23, .ref m24, .int 0, .int 0, .int 0, .ref m28, .int 0, .int 0, .int 0, .ref m32, .ref m33, .ref m34, .int 0, .ref m36, .ref m37, .ref m38, .ref m39, .ref m40, .ref m41, .ref m42, .int 0])), (m0, .inl (ct, 400, .inl f_7))]) hP hD [0, 1] [] rfl rfl (by decide) (by decide) hk1 hFc hP1 hD1
  have hK := hK.app hK1
  generalize H1 = H at hP hS ⊢
  have hP : va_P D vwCl [(h0, .inr (9, [.ref m0, .int (nI 8), .int 0, .int 0, .ref m4, .ref m5, .ref m6, .ref m7, .ref m8, .ref m9, .ref m10, .ref m11, .ref m12, .int 0, .int 0, .ref m15, .ref m16, .ref m17, .ref m18, .ref m19, .ref m20, .int 0, .int (-1), .ref m23, .ref m24, .int 0, .int 0, .int 0, .ref m28, .int 0, .int 0, .int 0, .ref m32, .ref m33, .ref m34, .int 0, .ref m36, .ref m37, .ref m38, .ref m39, .ref m40, .ref m41, .ref m42, .int 0])), (m0, .inl (ct, 400, .inl f_7))] H := hP
  have hD : va_D A [(h0, .inr (9, [.ref m0, .int (nI 8), .int 0, .int 0, .ref m4, .ref m5, .ref m6, .ref m7, .ref m8, .ref m9, .ref m10, .ref m11, .ref m12, .int 0, .int 0, .ref m15, .ref m16, .ref m17, .ref m18, .ref m19, .ref m20, .int 0, .int (-1), .ref m23, .ref m24, .int 0, .int 0, .int 0, .ref m28, .int 0, .int 0, .int 0, .ref m32, .ref m33, .ref m34, .int 0, .ref m36, .ref m37, .ref m38, .ref m39, .ref m40, .ref m41, .ref m42, .int 0])), (m0, .inl (ct, 400, .inl f_7))] := hD
  have hK : va_K D vwCl [(ct, .int), (ct, .int), (ct, .int)] s := hK
  refine lv_aload_n hx hb dX9_feed_25 rfl (lv_at hl 0 rfl) ?_
  refine lv_iload_n hx hb dX9_feed_26 rfl (lv_at hl 3 rfl) ?_
  have hPc := hP.sub (ws' := [(h0, .inr (9, [.ref m0, .int (nI 8), .int 0, .int 0, .ref m4, .ref m5, .ref m6, .ref m7, .ref m8, .ref m9, .ref m10, .ref m11, .ref m12, .int 0, .int 0, .ref m15, .ref m16, .ref m17, .ref m18, .ref m19, .ref m20, .int 0, .int (-1), .ref m23, .ref m24, .int 0, .int 0, .int 0, .ref m28, .int 0, .int 0, .int 0, .ref m32, .ref m33, .ref m34, .int 0, .ref m36, .ref m37, .ref m38, .ref m39, .ref m40, .ref m41, .ref m42, .int 0])), (m0, .inl (ct, 400, .inl f_7))]) [0, 1] rfl
  have hDc := hD.sub (ws' := [(h0, .inr (9, [.ref m0, .int (nI 8), .int 0, .int 0, .ref m4, .ref m5, .ref m6, .ref m7, .ref m8, .ref m9, .ref m10, .ref m11, .ref m12, .int 0, .int 0, .ref m15, .ref m16, .ref m17, .ref m18, .ref m19, .ref m20, .int 0, .int (-1), .ref m23, .ref m24, .int 0, .int 0, .int 0, .ref m28, .int 0, .int 0, .int 0, .ref m32, .ref m33, .ref m34, .int 0, .ref m36, .ref m37, .ref m38, .ref m39, .ref m40, .ref m41, .ref m42, .int 0])), (m0, .inl (ct, 400, .inl f_7))]) [0, 1] (by decide) rfl
  have hKc := hK.sub (tys' := [(ct, .int)]) [0] rfl
  have hFc := va_free (wc := [(h0, .inr (9, [.ref m0, .int (nI 8), .int 0, .int 0, .ref m4, .ref m5, .ref m6, .ref m7, .ref m8, .ref m9, .ref m10, .ref m11, .ref m12, .int 0, .int 0, .ref m15, .ref m16, .ref m17, .ref m18, .ref m19, .ref m20, .int 0, .int (-1), .ref m23, .ref m24, .int 0, .int 0, .int 0, .ref m28, .int 0, .int 0, .int 0, .ref m32, .ref m33, .ref m34, .int 0, .ref m36, .ref m37, .ref m38, .ref m39, .ref m40, .ref m41, .ref m42, .int 0])), (m0, .inl (ct, 400, .inl f_7))]) hD hS hA [0, 1] rfl
  refine va_callv (va_runV (As := [.int a3]) (rest := []) ⟨hx, hb, hml, hown, hts⟩ (q_X9_put l D h0 m0 m4 m5 m6 m7 m8 m9 m10 m11 m12 m15 m16 m17 m18 m19 m20 m23 m24 m28 m32 m33 m34 m36 m37 m38 m39 m40 m41 m42 ct 8 f_7 a3 H.size (by omega)) (cwV 1 hts gX9_feed_X9_put rfl rfl rfl (by decide +kernel) ⟨Nat.le_of_ble_eq_true rfl, Nat.le_of_ble_eq_true rfl⟩) ⟨fun a U g mk q => by obtain ⟨q0, q1, qP, qK, qD⟩ := q; exact ⟨q0, q1, qP, va_K.moved (u := U) (U := U.calling g mk a) (Vm.Alike.refl U.vm) qK, qD⟩, va_recv hKc hPc (ci := 9) (q0 := 0) rfl rfl, fun U hU hW => ⟨rfl, by rw [hU], by rw [hU]; exact hPc, va_K.moved hW.alike hKc, hDc.weaken (fun _ _ _ _ => trivial)⟩⟩ rfl rfl hl.1 rfl (lv_room (Nat.le_of_ble_eq_true rfl)) dX9_feed_27 ⟨Nat.le_of_ble_eq_true rfl, Nat.le_of_ble_eq_true rfl⟩) hS (fun q _ h => hFc q h) hFc (fun u t H1 locs ht hvm w_9 hB hz1 hk1 hS => ?_)
  obtain ⟨f_10, hP1, hK1, hD1⟩ := hB
  rw [ht] at hP1
  have hK1 := va_K.moved hvm.symm hK1
  obtain ⟨hP, hD⟩ := va_join (wr := []) (w1 := [(h0, .inr (9, [.ref m0, .int (nI 12), .int 0, .int 0, .ref m4, .ref m5, .ref m6, .ref m7, .ref m8, .ref m9, .ref m10, .ref m11, .ref m12, .int 0, .int 0, .ref m15, .ref m16, .ref m17, .ref m18, .ref m19, .ref m20, .int 0, .int (-1), .ref m23, .ref m24, .int 0, .int 0, .int 0, .ref m28, .int 0, .int 0, .int 0, .ref m32, .ref m33, .ref m34, .int 0, .ref m36, .ref m37, .ref m38, .ref m39, .ref m40, .ref m41, .ref m42, .int 0])), (m0, .inl (ct, 400, .inl f_10))]) hP hD [0, 1] [] rfl rfl (by decide) (by decide) hk1 hFc hP1 hD1
  have hK := hK.app hK1
  generalize H1 = H at hP hS ⊢
  have hP : va_P D vwCl [(h0, .inr (9, [.ref m0, .int (nI 12), .int 0, .int 0, .ref m4, .ref m5, .ref m6, .ref m7, .ref m8, .ref m9, .ref m10, .ref m11, .ref m12, .int 0, .int 0, .ref m15, .ref m16, .ref m17, .ref m18, .ref m19, .ref m20, .int 0, .int (-1), .ref m23, .ref m24, .int 0, .int 0, .int 0, .ref m28, .int 0, .int 0, .int 0, .ref m32, .ref m33, .ref m34, .int 0, .ref m36, .ref m37, .ref m38, .ref m39, .ref m40, .ref m41, .ref m42, .int 0])), (m0, .inl (ct, 400, .inl f_10))] H := hP
  have hD : va_D A [(h0, .inr (9, [.ref m0, .int (nI 12), .int 0, .int 0, .ref m4, .ref m5, .ref m6, .ref m7, .ref m8, .ref m9, .ref m10, .ref m11, .ref m12, .int 0, .int 0, .ref m15, .ref m16, .ref m17, .ref m18, .ref m19, .ref m20, .int 0, .int (-1), .ref m23, .ref m24, .int 0, .int 0, .int 0, .ref m28, .int 0, .int 0, .int 0, .ref m32, .ref m33, .ref m34, .int 0, .ref m36, .ref m37, .ref m38, .ref m39, .ref m40, .ref m41, .ref m42, .int 0])), (m0, .inl (ct, 400, .inl f_10))] := hD
  have hK : va_K D vwCl [(ct, .int), (ct, .int), (ct, .int), (ct, .int)] s := hK
  refine lv_aload_n hx hb dX9_feed_30 rfl (lv_at hl 0 rfl) ?_
  refine lv_iload hx hb dX9_feed_31 (lv_at hl 4 rfl) ?_
  have hPc := hP.sub (ws' := [(h0, .inr (9, [.ref m0, .int (nI 12), .int 0, .int 0, .ref m4, .ref m5, .ref m6, .ref m7, .ref m8, .ref m9, .ref m10, .ref m11, .ref m12, .int 0, .int 0, .ref m15, .ref m16, .ref m17, .ref m18, .ref m19, .ref m20, .int 0, .int (-1), .ref m23, .ref m24, .int 0, .int 0, .int 0, .ref m28, .int 0, .int 0, .int 0, .ref m32, .ref m33, .ref m34, .int 0, .ref m36, .ref m37, .ref m38, .ref m39, .ref m40, .ref m41, .ref m42, .int 0])), (m0, .inl (ct, 400, .inl f_10))]) [0, 1] rfl
  have hDc := hD.sub (ws' := [(h0, .inr (9, [.ref m0, .int (nI 12), .int 0, .int 0, .ref m4, .ref m5, .ref m6, .ref m7, .ref m8, .ref m9, .ref m10, .ref m11, .ref m12, .int 0, .int 0, .ref m15, .ref m16, .ref m17, .ref m18, .ref m19, .ref m20, .int 0, .int (-1), .ref m23, .ref m24, .int 0, .int 0, .int 0, .ref m28, .int 0, .int 0, .int 0, .ref m32, .ref m33, .ref m34, .int 0, .ref m36, .ref m37, .ref m38, .ref m39, .ref m40, .ref m41, .ref m42, .int 0])), (m0, .inl (ct, 400, .inl f_10))]) [0, 1] (by decide) rfl
  have hKc := hK.sub (tys' := [(ct, .int)]) [0] rfl
  have hFc := va_free (wc := [(h0, .inr (9, [.ref m0, .int (nI 12), .int 0, .int 0, .ref m4, .ref m5, .ref m6, .ref m7, .ref m8, .ref m9, .ref m10, .ref m11, .ref m12, .int 0, .int 0, .ref m15, .ref m16, .ref m17, .ref m18, .ref m19, .ref m20, .int 0, .int (-1), .ref m23, .ref m24, .int 0, .int 0, .int 0, .ref m28, .int 0, .int 0, .int 0, .ref m32, .ref m33, .ref m34, .int 0, .ref m36, .ref m37, .ref m38, .ref m39, .ref m40, .ref m41, .ref m42, .int 0])), (m0, .inl (ct, 400, .inl f_10))]) hD hS hA [0, 1] rfl
  refine va_callv (va_runV (As := [.int a4]) (rest := []) ⟨hx, hb, hml, hown, hts⟩ (q_X9_put l D h0 m0 m4 m5 m6 m7 m8 m9 m10 m11 m12 m15 m16 m17 m18 m19 m20 m23 m24 m28 m32 m33 m34 m36 m37 m38 m39 m40 m41 m42 ct 12 f_10 a4 H.size (by omega)) (cwV 1 hts gX9_feed_X9_put rfl rfl rfl (by decide +kernel) ⟨Nat.le_of_ble_eq_true rfl, Nat.le_of_ble_eq_true rfl⟩) ⟨fun a U g mk q => by obtain ⟨q0, q1, qP, qK, qD⟩ := q; exact ⟨q0, q1, qP, va_K.moved (u := U) (U := U.calling g mk a) (Vm.Alike.refl U.vm) qK, qD⟩, va_recv hKc hPc (ci := 9) (q0 := 0) rfl rfl, fun U hU hW => ⟨rfl, by rw [hU], by rw [hU]; exact hPc, va_K.moved hW.alike hKc, hDc.weaken (fun _ _ _ _ => trivial)⟩⟩ rfl rfl hl.1 rfl (lv_room (Nat.le_of_ble_eq_true rfl)) dX9_feed_33 ⟨Nat.le_of_ble_eq_true rfl, Nat.le_of_ble_eq_true rfl⟩) hS (fun q _ h => hFc q h) hFc (fun u t H1 locs ht hvm w_12 hB hz1 hk1 hS => ?_)
  obtain ⟨f_13, hP1, hK1, hD1⟩ := hB
  rw [ht] at hP1
  have hK1 := va_K.moved hvm.symm hK1
  obtain ⟨hP, hD⟩ := va_join (wr := []) (w1 := [(h0, .inr (9, [.ref m0, .int (nI 16), .int 0, .int 0, .ref m4, .ref m5, .ref m6, .ref m7, .ref m8, .ref m9, .ref m10, .ref m11, .ref m12, .int 0, .int 0, .ref m15, .ref m16, .ref m17, .ref m18, .ref m19, .ref m20, .int 0, .int (-1), .ref m23, .ref m24, .int 0, .int 0, .int 0, .ref m28, .int 0, .int 0, .int 0, .ref m32, .ref m33, .ref m34, .int 0, .ref m36, .ref m37, .ref m38, .ref m39, .ref m40, .ref m41, .ref m42, .int 0])), (m0, .inl (ct, 400, .inl f_13))]) hP hD [0, 1] [] rfl rfl (by decide) (by decide) hk1 hFc hP1 hD1
  have hK := hK.app hK1
  generalize H1 = H at hP hS ⊢
  have hP : va_P D vwCl [(h0, .inr (9, [.ref m0, .int (nI 16), .int 0, .int 0, .ref m4, .ref m5, .ref m6, .ref m7, .ref m8, .ref m9, .ref m10, .ref m11, .ref m12, .int 0, .int 0, .ref m15, .ref m16, .ref m17, .ref m18, .ref m19, .ref m20, .int 0, .int (-1), .ref m23, .ref m24, .int 0, .int 0, .int 0, .ref m28, .int 0, .int 0, .int 0, .ref m32, .ref m33, .ref m34, .int 0, .ref m36, .ref m37, .ref m38, .ref m39, .ref m40, .ref m41, .ref m42, .int 0])), (m0, .inl (ct, 400, .inl f_13))] H := hP
  have hD : va_D A [(h0, .inr (9, [.ref m0, .int (nI 16), .int 0, .int 0, .ref m4, .ref m5, .ref m6, .ref m7, .ref m8, .ref m9, .ref m10, .ref m11, .ref m12, .int 0, .int 0, .ref m15, .ref m16, .ref m17, .ref m18, .ref m19, .ref m20, .int 0, .int (-1), .ref m23, .ref m24, .int 0, .int 0, .int 0, .ref m28, .int 0, .int 0, .int 0, .ref m32, .ref m33, .ref m34, .int 0, .ref m36, .ref m37, .ref m38, .ref m39, .ref m40, .ref m41, .ref m42, .int 0])), (m0, .inl (ct, 400, .inl f_13))] := hD
  have hK : va_K D vwCl [(ct, .int), (ct, .int), (ct, .int), (ct, .int), (ct, .int)] s := hK
  refine lv_aload_n hx hb dX9_feed_36 rfl (lv_at hl 0 rfl) ?_
  refine lv_iload hx hb dX9_feed_37 (lv_at hl 5 rfl) ?_
  have hPc := hP.sub (ws' := [(h0, .inr (9, [.ref m0, .int (nI 16), .int 0, .int 0, .ref m4, .ref m5, .ref m6, .ref m7, .ref m8, .ref m9, .ref m10, .ref m11, .ref m12, .int 0, .int 0, .ref m15, .ref m16, .ref m17, .ref m18, .ref m19, .ref m20, .int 0, .int (-1), .ref m23, .ref m24, .int 0, .int 0, .int 0, .ref m28, .int 0, .int 0, .int 0, .ref m32, .ref m33, .ref m34, .int 0, .ref m36, .ref m37, .ref m38, .ref m39, .ref m40, .ref m41, .ref m42, .int 0])), (m0, .inl (ct, 400, .inl f_13))]) [0, 1] rfl
  have hDc := hD.sub (ws' := [(h0, .inr (9, [.ref m0, .int (nI 16), .int 0, .int 0, .ref m4, .ref m5, .ref m6, .ref m7, .ref m8, .ref m9, .ref m10, .ref m11, .ref m12, .int 0, .int 0, .ref m15, .ref m16, .ref m17, .ref m18, .ref m19, .ref m20, .int 0, .int (-1), .ref m23, .ref m24, .int 0, .int 0, .int 0, .ref m28, .int 0, .int 0, .int 0, .ref m32, .ref m33, .ref m34, .int 0, .ref m36, .ref m37, .ref m38, .ref m39, .ref m40, .ref m41, .ref m42, .int 0])), (m0, .inl (ct, 400, .inl f_13))]) [0, 1] (by decide) rfl
  have hKc := hK.sub (tys' := [(ct, .int)]) [0] rfl
  have hFc := va_free (wc := [(h0, .inr (9, [.ref m0, .int (nI 16), .int 0, .int 0, .ref m4, .ref m5, .ref m6, .ref m7, .ref m8, .ref m9, .ref m10, .ref m11, .ref m12, .int 0, .int 0, .ref m15, .ref m16, .ref m17, .ref m18, .ref m19, .ref m20, .int 0, .int (-1), .ref m23, .ref m24, .int 0, .int 0, .int 0, .ref m28, .int 0, .int 0, .int 0, .ref m32, .ref m33, .ref m34, .int 0, .ref m36, .ref m37, .ref m38, .ref m39, .ref m40, .ref m41, .ref m42, .int 0])), (m0, .inl (ct, 400, .inl f_13))]) hD hS hA [0, 1] rfl
  refine va_callv (va_runV (As := [.int a5]) (rest := []) ⟨hx, hb, hml, hown, hts⟩ (q_X9_put l D h0 m0 m4 m5 m6 m7 m8 m9 m10 m11 m12 m15 m16 m17 m18 m19 m20 m23 m24 m28 m32 m33 m34 m36 m37 m38 m39 m40 m41 m42 ct 16 f_13 a5 H.size (by omega)) (cwV 1 hts gX9_feed_X9_put rfl rfl rfl (by decide +kernel) ⟨Nat.le_of_ble_eq_true rfl, Nat.le_of_ble_eq_true rfl⟩) ⟨fun a U g mk q => by obtain ⟨q0, q1, qP, qK, qD⟩ := q; exact ⟨q0, q1, qP, va_K.moved (u := U) (U := U.calling g mk a) (Vm.Alike.refl U.vm) qK, qD⟩, va_recv hKc hPc (ci := 9) (q0 := 0) rfl rfl, fun U hU hW => ⟨rfl, by rw [hU], by rw [hU]; exact hPc, va_K.moved hW.alike hKc, hDc.weaken (fun _ _ _ _ => trivial)⟩⟩ rfl rfl hl.1 rfl (lv_room (Nat.le_of_ble_eq_true rfl)) dX9_feed_39 ⟨Nat.le_of_ble_eq_true rfl, Nat.le_of_ble_eq_true rfl⟩) hS (fun q _ h => hFc q h) hFc (fun u t H1 locs ht hvm w_15 hB hz1 hk1 hS => ?_)
  obtain ⟨f_16, hP1, hK1, hD1⟩ := hB
  rw [ht] at hP1
  have hK1 := va_K.moved hvm.symm hK1
  obtain ⟨hP, hD⟩ := va_join (wr := []) (w1 := [(h0, .inr (9, [.ref m0, .int (nI 20), .int 0, .int 0, .ref m4, .ref m5, .ref m6, .ref m7, .ref m8, .ref m9, .ref m10, .ref m11, .ref m12, .int 0, .int 0, .ref m15, .ref m16, .ref m17, .ref m18, .ref m19, .ref m20, .int 0, .int (-1), .ref m23, .ref m24, .int 0, .int 0, .int 0, .ref m28, .int 0, .int 0, .int 0, .ref m32, .ref m33, .ref m34, .int 0, .ref m36, .ref m37, .ref m38, .ref m39, .ref m40, .ref m41, .ref m42, .int 0])), (m0, .inl (ct, 400, .inl f_16))]) hP hD [0, 1] [] rfl rfl (by decide) (by decide) hk1 hFc hP1 hD1
  have hK := hK.app hK1
  generalize H1 = H at hP hS ⊢
  have hP : va_P D vwCl [(h0, .inr (9, [.ref m0, .int (nI 20), .int 0, .int 0, .ref m4, .ref m5, .ref m6, .ref m7, .ref m8, .ref m9, .ref m10, .ref m11, .ref m12, .int 0, .int 0, .ref m15, .ref m16, .ref m17, .ref m18, .ref m19, .ref m20, .int 0, .int (-1), .ref m23, .ref m24, .int 0, .int 0, .int 0, .ref m28, .int 0, .int 0, .int 0, .ref m32, .ref m33, .ref m34, .int 0, .ref m36, .ref m37, .ref m38, .ref m39, .ref m40, .ref m41, .ref m42, .int 0])), (m0, .inl (ct, 400, .inl f_16))] H := hP
  have hD : va_D A [(h0, .inr (9, [.ref m0, .int (nI 20), .int 0, .int 0, .ref m4, .ref m5, .ref m6, .ref m7, .ref m8, .ref m9, .ref m10, .ref m11, .ref m12, .int 0, .int 0, .ref m15, .ref m16, .ref m17, .ref m18, .ref m19, .ref m20, .int 0, .int (-1), .ref m23, .ref m24, .int 0, .int 0, .int 0, .ref m28, .int 0, .int 0, .int 0, .ref m32, .ref m33, .ref m34, .int 0, .ref m36, .ref m37, .ref m38, .ref m39, .ref m40, .ref m41, .ref m42, .int 0])), (m0, .inl (ct, 400, .inl f_16))] := hD
  have hK : va_K D vwCl [(ct, .int), (ct, .int), (ct, .int), (ct, .int), (ct, .int), (ct, .int)] s := hK
  refine lv_aload_n hx hb dX9_feed_42 rfl (lv_at hl 0 rfl) ?_
  refine va_get (D := D) (ci := 9) (v := .int (nI 20)) (C := RX9) (T := TX9) (N := 44) hx hb hts hin9 hown hK hP 0 rfl rfl 1 (by decide) (hts (.fieldLink RX9 13 "HoneyHouseModel" "taped" "I") (List.mem_of_getElem? (i := 1) rfl)) (fun _ h9 => h9) rfl dX9_feed_43 ?_
  have hP9 := hP.sub (ws' := []) [] rfl
  have hD9 := hD.sub (ws' := []) [] (by decide) rfl
  have hK9 := hK.sub (tys' := []) [] rfl
  refine W.widen (k := 0) (n := 0) (by omega) (by omega) ?_
  exact W.iret (v := nI 20) hx hb hr (fun t ht hW => ⟨⟨nI 20, (), rfl, rfl, by rw [ht]; exact hP9, va_K.moved hW.alike hK9, hD9⟩, hS.F ht⟩) hS.2.2 dX9_feed_46
set_option maxHeartbeats 4000000 in
set_option maxRecDepth 100000 in
theorem q_X9_end (l : Launch) (D : va_G) (h0 m0 m4 m5 m6 m7 m8 m9 m10 m11 m12 m15 m16 m17 m18 m19 m20 m23 m24 m28 m32 m33 m34 m36 m37 m38 m39 m40 m41 m42 : Nat) (a1 : Int32) (sz : Nat)  : Met l yX9_end wsX9_end ({ frames := 0, cells := 0, slots := 0, locals := 0 }) (va_Pc [.ref h0, .int a1] (fun U => U.heap.size = sz ∧ va_P D vwCl [(h0, .inr (9, [.ref m0, .int 0, .int 0, .int 0, .ref m4, .ref m5, .ref m6, .ref m7, .ref m8, .ref m9, .ref m10, .ref m11, .ref m12, .int 0, .int 0, .ref m15, .ref m16, .ref m17, .ref m18, .ref m19, .ref m20, .int 0, .int (-1), .ref m23, .ref m24, .int 0, .int 0, .int 0, .ref m28, .int 0, .int 0, .int 0, .ref m32, .ref m33, .ref m34, .int 0, .ref m36, .ref m37, .ref m38, .ref m39, .ref m40, .ref m41, .ref m42, .int 0]))] U.heap ∧ va_K D vwCl [] U ∧ va_D (fun _ => True) [(h0, .inr (9, [.ref m0, .int 0, .int 0, .int 0, .ref m4, .ref m5, .ref m6, .ref m7, .ref m8, .ref m9, .ref m10, .ref m11, .ref m12, .int 0, .int 0, .ref m15, .ref m16, .ref m17, .ref m18, .ref m19, .ref m20, .int 0, .int (-1), .ref m23, .ref m24, .int 0, .int 0, .int 0, .ref m28, .int 0, .int 0, .int 0, .ref m32, .ref m33, .ref m34, .int 0, .ref m36, .ref m37, .ref m38, .ref m39, .ref m40, .ref m41, .ref m42, .int 0]))])) (va_Qi (fun (r : Int32) (_ : Unit) => r = if a1 < 0 then 0 else if 0 < a1 then 0 else 1) (fun (_ : Unit) (t : State) => va_P D vwCl [] t.heap ∧ va_K D vwCl [] t ∧ va_D (va_A [(h0, .inr (9, [.ref m0, .int 0, .int 0, .int 0, .ref m4, .ref m5, .ref m6, .ref m7, .ref m8, .ref m9, .ref m10, .ref m11, .ref m12, .int 0, .int 0, .ref m15, .ref m16, .ref m17, .ref m18, .ref m19, .ref m20, .int 0, .int (-1), .ref m23, .ref m24, .int 0, .int 0, .int 0, .ref m28, .int 0, .int 0, .int 0, .ref m32, .ref m33, .ref m34, .int 0, .ref m36, .ref m37, .ref m38, .ref m39, .ref m40, .ref m41, .ref m42, .int 0]))] sz) []) (va_A [(h0, .inr (9, [.ref m0, .int 0, .int 0, .int 0, .ref m4, .ref m5, .ref m6, .ref m7, .ref m8, .ref m9, .ref m10, .ref m11, .ref m12, .int 0, .int 0, .ref m15, .ref m16, .ref m17, .ref m18, .ref m19, .ref m20, .int 0, .int (-1), .ref m23, .ref m24, .int 0, .int 0, .int 0, .ref m28, .int 0, .int 0, .int 0, .ref m32, .ref m33, .ref m34, .int 0, .ref m36, .ref m37, .ref m38, .ref m39, .ref m40, .ref m41, .ref m42, .int 0]))] sz)) 0 0 (va_A [(h0, .inr (9, [.ref m0, .int 0, .int 0, .int 0, .ref m4, .ref m5, .ref m6, .ref m7, .ref m8, .ref m9, .ref m10, .ref m11, .ref m12, .int 0, .int 0, .ref m15, .ref m16, .ref m17, .ref m18, .ref m19, .ref m20, .int 0, .int (-1), .ref m23, .ref m24, .int 0, .int 0, .int 0, .ref m28, .int 0, .int 0, .int 0, .ref m32, .ref m33, .ref m34, .int 0, .ref m36, .ref m37, .ref m38, .ref m39, .ref m40, .ref m41, .ref m42, .int 0]))] sz) := by
  refine Met.ofW (cc := cX9_end) (maxL := 2) (ret := (some .boolean)) (by decide) rfl ?_
  intro p e s m args below meth c s₁ B hml hv
  obtain ⟨rfl, hsz, hP, hK, hD0⟩ := hv
  have hx := B.exec
  have hb := B.bytes
  have hr := B.returns
  have hts := atoms_spec (ws := wsX9_end) B.pre
  have hown : s.vm.findClass RX9 = some m.cls := findClass_of_methodNamed B.named
  have hlocks := B.notSynchronized
  subst hsz
  have hD := hD0.self (sz := s.heap.size)
  generalize hAe : va_A [(h0, .inr (9, [.ref m0, .int 0, .int 0, .int 0, .ref m4, .ref m5, .ref m6, .ref m7, .ref m8, .ref m9, .ref m10, .ref m11, .ref m12, .int 0, .int 0, .ref m15, .ref m16, .ref m17, .ref m18, .ref m19, .ref m20, .int 0, .int (-1), .ref m23, .ref m24, .int 0, .int 0, .int 0, .ref m28, .int 0, .int 0, .int 0, .ref m32, .ref m33, .ref m34, .int 0, .ref m36, .ref m37, .ref m38, .ref m39, .ref m40, .ref m41, .ref m42, .int 0]))] s.heap.size = A at hD ⊢
  have hA : ∀ q : Nat, s.heap.size ≤ q → A q := fun q h => by rw [← hAe]; exact Or.inr h
  have hS : va_S A s.heap s.heap [] := va_S.rf
  have hP : va_P D vwCl [(h0, .inr (9, [.ref m0, .int 0, .int 0, .int 0, .ref m4, .ref m5, .ref m6, .ref m7, .ref m8, .ref m9, .ref m10, .ref m11, .ref m12, .int 0, .int 0, .ref m15, .ref m16, .ref m17, .ref m18, .ref m19, .ref m20, .int 0, .int (-1), .ref m23, .ref m24, .int 0, .int 0, .int 0, .ref m28, .int 0, .int 0, .int 0, .ref m32, .ref m33, .ref m34, .int 0, .ref m36, .ref m37, .ref m38, .ref m39, .ref m40, .ref m41, .ref m42, .int 0]))] s.heap := hP
  have hin9 : ∀ w ∈ u_ws RX9 TX9 44, w ∈ wsX9_end := (fun _ h9 => List.mem_cons_of_mem _ ((List.mem_append_right _ h9)))
  have hl := lv_entry ([.ref h0, .int a1]) (n := 2) (Nat.le_of_ble_eq_true rfl)
  rw [lg_entry_eq]
  generalize (lg_sl ([.ref h0, .int a1]) ++ List.replicate (2 - (lg_sl ([.ref h0, .int a1])).length) Slot.unset).toArray = ls at hl ⊢
  have hl : lv_has ls 2 [(0, .ref h0), (1, .int a1)] := hl
  refine lv_iload_n hx hb dX9_end_0 rfl (lv_at hl 1 rfl) ?_
  refine lv_if_lt (tgt := 12) hx hb dX9_end_1 (by decide) (fun c_1 => ?_) (fun c_1 => ?_)
  · refine lv_iconst (v := 0) hx hb dX9_end_12 (by decide) ?_
    have hP9 := hP.sub (ws' := []) [] rfl
    have hD9 := hD.sub (ws' := []) [] (by decide) rfl
    have hK9 := hK.sub (tys' := []) [] rfl
    refine W.widen (k := 0) (n := 0) (by omega) (by omega) ?_
    exact W.zret (v := 0) hx hb hr rfl (fun t ht hW => ⟨⟨0, (), rfl, (by first | rfl | (simp_all; done) | (rw [if_neg (by assumption), if_neg (i_le_n (by assumption))])), by rw [ht]; exact hP9, va_K.moved hW.alike hK9, hD9⟩, hS.F ht⟩) hS.2.2 dX9_end_13
  refine lv_iload_n hx hb dX9_end_4 rfl (lv_at hl 1 rfl) ?_
  refine lv_aload_n hx hb dX9_end_5 rfl (lv_at hl 0 rfl) ?_
  refine va_get (D := D) (ci := 9) (v := .int 0) (C := RX9) (T := TX9) (N := 44) hx hb hts hin9 hown hK hP 0 rfl rfl 1 (by decide) (hts (.fieldLink RX9 13 "HoneyHouseModel" "taped" "I") (List.mem_of_getElem? (i := 1) rfl)) (fun _ h9 => h9) rfl dX9_end_6 ?_
  refine lv_icmp_le (tgt := 14) hx hb dX9_end_9 (by decide) (fun c_2 => ?_) (fun c_2 => ?_)
  · refine lv_aload_n hx hb dX9_end_14 rfl (lv_at hl 0 rfl) ?_
    refine lv_iload_n hx hb dX9_end_15 rfl (lv_at hl 1 rfl) ?_
    refine va_put (D := D) (ci := 9) (v := .int a1) (ty := .int) (C := RX9) (T := TX9) (N := 44) hx hb hts hin9 tyX9 tyX9_ok nmX9 hown hK hP hD hS 0 rfl rfl 1 (by decide) (hts (.fieldLink RX9 13 "HoneyHouseModel" "taped" "I") (List.mem_of_getElem? (i := 1) rfl)) (fun _ h9 => h9) rfl (tyX9_ok 1 (by decide)) rfl rfl (Nat.le_of_ble_eq_true rfl) dX9_end_16 (fun H locs hP hD hS => ?_)
    have hP : va_P D vwCl [(h0, .inr (9, [.ref m0, .int a1, .int 0, .int 0, .ref m4, .ref m5, .ref m6, .ref m7, .ref m8, .ref m9, .ref m10, .ref m11, .ref m12, .int 0, .int 0, .ref m15, .ref m16, .ref m17, .ref m18, .ref m19, .ref m20, .int 0, .int (-1), .ref m23, .ref m24, .int 0, .int 0, .int 0, .ref m28, .int 0, .int 0, .int 0, .ref m32, .ref m33, .ref m34, .int 0, .ref m36, .ref m37, .ref m38, .ref m39, .ref m40, .ref m41, .ref m42, .int 0]))] H := hP
    have hD : va_D A [(h0, .inr (9, [.ref m0, .int a1, .int 0, .int 0, .ref m4, .ref m5, .ref m6, .ref m7, .ref m8, .ref m9, .ref m10, .ref m11, .ref m12, .int 0, .int 0, .ref m15, .ref m16, .ref m17, .ref m18, .ref m19, .ref m20, .int 0, .int (-1), .ref m23, .ref m24, .int 0, .int 0, .int 0, .ref m28, .int 0, .int 0, .int 0, .ref m32, .ref m33, .ref m34, .int 0, .ref m36, .ref m37, .ref m38, .ref m39, .ref m40, .ref m41, .ref m42, .int 0]))] := hD
    refine lv_iconst (v := 1) hx hb dX9_end_19 (by decide) ?_
    have hP9 := hP.sub (ws' := []) [] rfl
    have hD9 := hD.sub (ws' := []) [] (by decide) rfl
    have hK9 := hK.sub (tys' := []) [] rfl
    refine W.widen (k := 0) (n := 0) (by omega) (by omega) ?_
    exact W.zret (v := 1) hx hb hr rfl (fun t ht hW => ⟨⟨1, (), rfl, (by first | rfl | (simp_all; done) | (rw [if_neg (by assumption), if_neg (i_le_n (by assumption))])), by rw [ht]; exact hP9, va_K.moved hW.alike hK9, hD9⟩, hS.F ht⟩) hS.2.2 dX9_end_20
  refine lv_iconst (v := 0) hx hb dX9_end_12 (by decide) ?_
  have hP9 := hP.sub (ws' := []) [] rfl
  have hD9 := hD.sub (ws' := []) [] (by decide) rfl
  have hK9 := hK.sub (tys' := []) [] rfl
  refine W.widen (k := 0) (n := 0) (by omega) (by omega) ?_
  exact W.zret (v := 0) hx hb hr rfl (fun t ht hW => ⟨⟨0, (), rfl, (by first | rfl | (simp_all; done) | (rw [if_neg (by assumption), if_neg (i_le_n (by assumption))])), by rw [ht]; exact hP9, va_K.moved hW.alike hK9, hD9⟩, hS.F ht⟩) hS.2.2 dX9_end_13
set_option maxHeartbeats 4000000 in
set_option maxRecDepth 100000 in
theorem q_X9_today (l : Launch) (D : va_G) (h0 m0 m4 m5 m6 m7 m8 m9 m10 m11 m12 m15 m16 m17 m18 m19 m20 m23 m24 m28 m32 m33 m34 m36 m37 m38 m39 m40 m41 m42 : Nat) (a1 : Int32) (sz : Nat)  : Met l yX9_today wsX9_today ({ frames := 0, cells := 0, slots := 0, locals := 0 }) (va_Pc [.ref h0, .int a1] (fun U => U.heap.size = sz ∧ va_P D vwCl [(h0, .inr (9, [.ref m0, .int 0, .int 0, .int 0, .ref m4, .ref m5, .ref m6, .ref m7, .ref m8, .ref m9, .ref m10, .ref m11, .ref m12, .int 0, .int 0, .ref m15, .ref m16, .ref m17, .ref m18, .ref m19, .ref m20, .int 0, .int (-1), .ref m23, .ref m24, .int 0, .int 0, .int 0, .ref m28, .int 0, .int 0, .int 0, .ref m32, .ref m33, .ref m34, .int 0, .ref m36, .ref m37, .ref m38, .ref m39, .ref m40, .ref m41, .ref m42, .int 0]))] U.heap ∧ va_K D vwCl [] U ∧ va_D (fun _ => True) [(h0, .inr (9, [.ref m0, .int 0, .int 0, .int 0, .ref m4, .ref m5, .ref m6, .ref m7, .ref m8, .ref m9, .ref m10, .ref m11, .ref m12, .int 0, .int 0, .ref m15, .ref m16, .ref m17, .ref m18, .ref m19, .ref m20, .int 0, .int (-1), .ref m23, .ref m24, .int 0, .int 0, .int 0, .ref m28, .int 0, .int 0, .int 0, .ref m32, .ref m33, .ref m34, .int 0, .ref m36, .ref m37, .ref m38, .ref m39, .ref m40, .ref m41, .ref m42, .int 0]))])) (va_Qi (fun (r : Int32) (_ : Unit) => r = if a1 < 0 then 0 else if 30000 < a1 then 0 else 1) (fun (_ : Unit) (t : State) => va_P D vwCl [] t.heap ∧ va_K D vwCl [] t ∧ va_D (va_A [(h0, .inr (9, [.ref m0, .int 0, .int 0, .int 0, .ref m4, .ref m5, .ref m6, .ref m7, .ref m8, .ref m9, .ref m10, .ref m11, .ref m12, .int 0, .int 0, .ref m15, .ref m16, .ref m17, .ref m18, .ref m19, .ref m20, .int 0, .int (-1), .ref m23, .ref m24, .int 0, .int 0, .int 0, .ref m28, .int 0, .int 0, .int 0, .ref m32, .ref m33, .ref m34, .int 0, .ref m36, .ref m37, .ref m38, .ref m39, .ref m40, .ref m41, .ref m42, .int 0]))] sz) []) (va_A [(h0, .inr (9, [.ref m0, .int 0, .int 0, .int 0, .ref m4, .ref m5, .ref m6, .ref m7, .ref m8, .ref m9, .ref m10, .ref m11, .ref m12, .int 0, .int 0, .ref m15, .ref m16, .ref m17, .ref m18, .ref m19, .ref m20, .int 0, .int (-1), .ref m23, .ref m24, .int 0, .int 0, .int 0, .ref m28, .int 0, .int 0, .int 0, .ref m32, .ref m33, .ref m34, .int 0, .ref m36, .ref m37, .ref m38, .ref m39, .ref m40, .ref m41, .ref m42, .int 0]))] sz)) 0 0 (va_A [(h0, .inr (9, [.ref m0, .int 0, .int 0, .int 0, .ref m4, .ref m5, .ref m6, .ref m7, .ref m8, .ref m9, .ref m10, .ref m11, .ref m12, .int 0, .int 0, .ref m15, .ref m16, .ref m17, .ref m18, .ref m19, .ref m20, .int 0, .int (-1), .ref m23, .ref m24, .int 0, .int 0, .int 0, .ref m28, .int 0, .int 0, .int 0, .ref m32, .ref m33, .ref m34, .int 0, .ref m36, .ref m37, .ref m38, .ref m39, .ref m40, .ref m41, .ref m42, .int 0]))] sz) := by
  refine Met.ofW (cc := cX9_today) (maxL := 2) (ret := (some .boolean)) (by decide) rfl ?_
  intro p e s m args below meth c s₁ B hml hv
  obtain ⟨rfl, hsz, hP, hK, hD0⟩ := hv
  have hx := B.exec
  have hb := B.bytes
  have hr := B.returns
  have hts := atoms_spec (ws := wsX9_today) B.pre
  have hown : s.vm.findClass RX9 = some m.cls := findClass_of_methodNamed B.named
  have hlocks := B.notSynchronized
  subst hsz
  have hD := hD0.self (sz := s.heap.size)
  generalize hAe : va_A [(h0, .inr (9, [.ref m0, .int 0, .int 0, .int 0, .ref m4, .ref m5, .ref m6, .ref m7, .ref m8, .ref m9, .ref m10, .ref m11, .ref m12, .int 0, .int 0, .ref m15, .ref m16, .ref m17, .ref m18, .ref m19, .ref m20, .int 0, .int (-1), .ref m23, .ref m24, .int 0, .int 0, .int 0, .ref m28, .int 0, .int 0, .int 0, .ref m32, .ref m33, .ref m34, .int 0, .ref m36, .ref m37, .ref m38, .ref m39, .ref m40, .ref m41, .ref m42, .int 0]))] s.heap.size = A at hD ⊢
  have hA : ∀ q : Nat, s.heap.size ≤ q → A q := fun q h => by rw [← hAe]; exact Or.inr h
  have hS : va_S A s.heap s.heap [] := va_S.rf
  have hP : va_P D vwCl [(h0, .inr (9, [.ref m0, .int 0, .int 0, .int 0, .ref m4, .ref m5, .ref m6, .ref m7, .ref m8, .ref m9, .ref m10, .ref m11, .ref m12, .int 0, .int 0, .ref m15, .ref m16, .ref m17, .ref m18, .ref m19, .ref m20, .int 0, .int (-1), .ref m23, .ref m24, .int 0, .int 0, .int 0, .ref m28, .int 0, .int 0, .int 0, .ref m32, .ref m33, .ref m34, .int 0, .ref m36, .ref m37, .ref m38, .ref m39, .ref m40, .ref m41, .ref m42, .int 0]))] s.heap := hP
  have hin9 : ∀ w ∈ u_ws RX9 TX9 44, w ∈ wsX9_today := (fun _ h9 => List.mem_cons_of_mem _ ((List.mem_append_right _ h9)))
  have hl := lv_entry ([.ref h0, .int a1]) (n := 2) (Nat.le_of_ble_eq_true rfl)
  rw [lg_entry_eq]
  generalize (lg_sl ([.ref h0, .int a1]) ++ List.replicate (2 - (lg_sl ([.ref h0, .int a1])).length) Slot.unset).toArray = ls at hl ⊢
  have hl : lv_has ls 2 [(0, .ref h0), (1, .int a1)] := hl
  refine lv_iload_n hx hb dX9_today_0 rfl (lv_at hl 1 rfl) ?_
  refine lv_aload_n hx hb dX9_today_1 rfl (lv_at hl 0 rfl) ?_
  refine va_get (D := D) (ci := 9) (v := .int 0) (C := RX9) (T := TX9) (N := 44) hx hb hts hin9 hown hK hP 0 rfl rfl 2 (by decide) (hts (.fieldLink RX9 17 "HoneyHouseModel" "today" "I") (List.mem_of_getElem? (i := 1) rfl)) (fun _ h9 => h9) rfl dX9_today_2 ?_
  refine lv_icmp_lt (tgt := 15) hx hb dX9_today_5 (by decide) (fun c_1 => ?_) (fun c_1 => ?_)
  · refine lv_iconst (v := 0) hx hb dX9_today_15 (by decide) ?_
    have hP9 := hP.sub (ws' := []) [] rfl
    have hD9 := hD.sub (ws' := []) [] (by decide) rfl
    have hK9 := hK.sub (tys' := []) [] rfl
    refine W.widen (k := 0) (n := 0) (by omega) (by omega) ?_
    exact W.zret (v := 0) hx hb hr rfl (fun t ht hW => ⟨⟨0, (), rfl, (by first | rfl | (simp_all; done) | (rw [if_neg (by assumption), if_neg (i_le_n (by assumption))])), by rw [ht]; exact hP9, va_K.moved hW.alike hK9, hD9⟩, hS.F ht⟩) hS.2.2 dX9_today_16
  refine lv_iload_n hx hb dX9_today_8 rfl (lv_at hl 1 rfl) ?_
  refine lv_sipush (v := 30000) hx hb dX9_today_9 (by decide) ?_
  refine lv_icmp_le (tgt := 17) hx hb dX9_today_12 (by decide) (fun c_2 => ?_) (fun c_2 => ?_)
  · refine lv_aload_n hx hb dX9_today_17 rfl (lv_at hl 0 rfl) ?_
    refine lv_iload_n hx hb dX9_today_18 rfl (lv_at hl 1 rfl) ?_
    refine va_put (D := D) (ci := 9) (v := .int a1) (ty := .int) (C := RX9) (T := TX9) (N := 44) hx hb hts hin9 tyX9 tyX9_ok nmX9 hown hK hP hD hS 0 rfl rfl 2 (by decide) (hts (.fieldLink RX9 17 "HoneyHouseModel" "today" "I") (List.mem_of_getElem? (i := 1) rfl)) (fun _ h9 => h9) rfl (tyX9_ok 2 (by decide)) rfl rfl (Nat.le_of_ble_eq_true rfl) dX9_today_19 (fun H locs hP hD hS => ?_)
    have hP : va_P D vwCl [(h0, .inr (9, [.ref m0, .int 0, .int a1, .int 0, .ref m4, .ref m5, .ref m6, .ref m7, .ref m8, .ref m9, .ref m10, .ref m11, .ref m12, .int 0, .int 0, .ref m15, .ref m16, .ref m17, .ref m18, .ref m19, .ref m20, .int 0, .int (-1), .ref m23, .ref m24, .int 0, .int 0, .int 0, .ref m28, .int 0, .int 0, .int 0, .ref m32, .ref m33, .ref m34, .int 0, .ref m36, .ref m37, .ref m38, .ref m39, .ref m40, .ref m41, .ref m42, .int 0]))] H := hP
    have hD : va_D A [(h0, .inr (9, [.ref m0, .int 0, .int a1, .int 0, .ref m4, .ref m5, .ref m6, .ref m7, .ref m8, .ref m9, .ref m10, .ref m11, .ref m12, .int 0, .int 0, .ref m15, .ref m16, .ref m17, .ref m18, .ref m19, .ref m20, .int 0, .int (-1), .ref m23, .ref m24, .int 0, .int 0, .int 0, .ref m28, .int 0, .int 0, .int 0, .ref m32, .ref m33, .ref m34, .int 0, .ref m36, .ref m37, .ref m38, .ref m39, .ref m40, .ref m41, .ref m42, .int 0]))] := hD
    refine lv_iconst (v := 1) hx hb dX9_today_22 (by decide) ?_
    have hP9 := hP.sub (ws' := []) [] rfl
    have hD9 := hD.sub (ws' := []) [] (by decide) rfl
    have hK9 := hK.sub (tys' := []) [] rfl
    refine W.widen (k := 0) (n := 0) (by omega) (by omega) ?_
    exact W.zret (v := 1) hx hb hr rfl (fun t ht hW => ⟨⟨1, (), rfl, (by first | rfl | (simp_all; done) | (rw [if_neg (by assumption), if_neg (i_le_n (by assumption))])), by rw [ht]; exact hP9, va_K.moved hW.alike hK9, hD9⟩, hS.F ht⟩) hS.2.2 dX9_today_23
  refine lv_iconst (v := 0) hx hb dX9_today_15 (by decide) ?_
  have hP9 := hP.sub (ws' := []) [] rfl
  have hD9 := hD.sub (ws' := []) [] (by decide) rfl
  have hK9 := hK.sub (tys' := []) [] rfl
  refine W.widen (k := 0) (n := 0) (by omega) (by omega) ?_
  exact W.zret (v := 0) hx hb hr rfl (fun t ht hW => ⟨⟨0, (), rfl, (by first | rfl | (simp_all; done) | (rw [if_neg (by assumption), if_neg (i_le_n (by assumption))])), by rw [ht]; exact hP9, va_K.moved hW.alike hK9, hD9⟩, hS.F ht⟩) hS.2.2 dX9_today_16
set_option maxHeartbeats 4000000 in
set_option maxRecDepth 100000 in
theorem q_X9_tank (l : Launch) (D : va_G) (h0 ar ap : Nat) (fs : List Value) (c1 c2 : ClassId) (a1 a2 a3 : Int32) (sz : Nat) (f3 : fs[3]? = some (.int 0)) (f11 : fs[11]? = some (.ref ar)) (f12 : fs[12]? = some (.ref ap)) : Met l yX9_tank wsX9_tank ({ frames := 1, cells := 0, slots := 0, locals := 23 }) (va_Pc [.ref h0, .int a1, .int a2, .int a3] (fun U => U.heap.size = sz ∧ va_P D vwCl [(h0, .inr (9, fs)), (ar, .inl (c1, 70, .inl (fun _ => 0))), (ap, .inl (c2, 70, .inl (fun _ => 0)))] U.heap ∧ va_K D vwCl [(c1, .int), (c2, .int)] U ∧ va_D (fun _ => True) [(h0, .inr (9, fs)), (ar, .inl (c1, 70, .inl (fun _ => 0))), (ap, .inl (c2, 70, .inl (fun _ => 0)))])) (va_Qi (fun (r : Int32) (_ : Unit) => r = if (a1 < 0 ∨ 9 < a1) ∨ (a2 < 0 ∨ 1000000 < a2) ∨ (a3 < 0 ∨ 10000 < a3) then 0 else 1) (fun (_ : Unit) (t : State) => va_P D vwCl [] t.heap ∧ va_K D vwCl [] t ∧ va_D (va_A [(h0, .inr (9, fs)), (ar, .inl (c1, 70, .inl (fun _ => 0))), (ap, .inl (c2, 70, .inl (fun _ => 0)))] sz) []) (va_A [(h0, .inr (9, fs)), (ar, .inl (c1, 70, .inl (fun _ => 0))), (ap, .inl (c2, 70, .inl (fun _ => 0)))] sz)) 0 0 (va_A [(h0, .inr (9, fs)), (ar, .inl (c1, 70, .inl (fun _ => 0))), (ap, .inl (c2, 70, .inl (fun _ => 0)))] sz) := by
  refine Met.ofW (cc := cX9_tank) (maxL := 4) (ret := (some .boolean)) (by decide) rfl ?_
  intro p e s m args below meth c s₁ B hml hv
  obtain ⟨rfl, hsz, hP, hK, hD0⟩ := hv
  have hx := B.exec
  have hb := B.bytes
  have hr := B.returns
  have hts := atoms_spec (ws := wsX9_tank) B.pre
  have hown : s.vm.findClass RX9 = some m.cls := findClass_of_methodNamed B.named
  have hlocks := B.notSynchronized
  subst hsz
  have hD := hD0.self (sz := s.heap.size)
  generalize hAe : va_A [(h0, .inr (9, fs)), (ar, .inl (c1, 70, .inl (fun _ => 0))), (ap, .inl (c2, 70, .inl (fun _ => 0)))] s.heap.size = A at hD ⊢
  have hA : ∀ q : Nat, s.heap.size ≤ q → A q := fun q h => by rw [← hAe]; exact Or.inr h
  have hS : va_S A s.heap s.heap [] := va_S.rf
  have hP : va_P D vwCl [(h0, .inr (9, fs)), (ar, .inl (c1, 70, .inl (fun _ => 0))), (ap, .inl (c2, 70, .inl (fun _ => 0)))] s.heap := hP
  have hin9 : ∀ w ∈ u_ws RX9 TX9 44, w ∈ wsX9_tank := (fun _ h9 => List.mem_cons_of_mem _ ((List.mem_append_right _ h9)))
  have hl := lv_entry ([.ref h0, .int a1, .int a2, .int a3]) (n := 4) (Nat.le_of_ble_eq_true rfl)
  rw [lg_entry_eq]
  generalize (lg_sl ([.ref h0, .int a1, .int a2, .int a3]) ++ List.replicate (4 - (lg_sl ([.ref h0, .int a1, .int a2, .int a3])).length) Slot.unset).toArray = ls at hl ⊢
  have hl : lv_has ls 4 [(0, .ref h0), (1, .int a1), (2, .int a2), (3, .int a3)] := hl
  refine lv_iload_n hx hb dX9_tank_0 rfl (lv_at hl 1 rfl) ?_
  refine vp_callSi (W.runS (As := [.int a1]) (rest := []) ⟨hx, hb, hml, hown, hts⟩ (s_X9_isTank l a1) (va_cwS 1 hts gX9_tank_X9_isTank rfl rfl rfl (by decide +kernel) ⟨Nat.le_of_ble_eq_true rfl, Nat.le_of_ble_eq_true rfl⟩) ⟨fun a U g mk q => q, fun U hU hW => ⟨rfl, trivial⟩⟩ rfl rfl hl.1 rfl (lv_room (Nat.le_of_ble_eq_true rfl)) dX9_tank_1 ⟨Nat.le_of_ble_eq_true rfl, Nat.le_of_ble_eq_true rfl⟩) (fun r_1 k_2 => ?_)
  rcases k_2 with ⟨rfl, a_3o⟩ | ⟨rfl, a_3, b_4⟩
  · refine lv_if_eq (tgt := 37) hx hb dX9_tank_4 (by decide) (fun c_5 => ?_) (fun c_5 => absurd (by decide) c_5)
    refine lv_iconst (v := 0) hx hb dX9_tank_37 (by decide) ?_
    have hP9 := hP.sub (ws' := []) [] rfl
    have hD9 := hD.sub (ws' := []) [] (by decide) rfl
    have hK9 := hK.sub (tys' := []) [] rfl
    refine W.widen (k := 0) (n := 0) (by omega) (by omega) ?_
    exact W.zret (v := 0) hx hb hr rfl (fun t ht hW => ⟨⟨0, (), rfl, (by rcases a_3o with a_3o | a_3o <;> simp_all), by rw [ht]; exact hP9, va_K.moved hW.alike hK9, hD9⟩, hS.F ht⟩) hS.2.2 dX9_tank_38
  refine lv_if_eq (tgt := 37) hx hb dX9_tank_4 (by decide) (fun c_6 => absurd c_6 (by decide)) (fun c_6 => ?_)
  refine lv_iload_n hx hb dX9_tank_7 rfl (lv_at hl 2 rfl) ?_
  refine lv_iconst (v := 0) hx hb dX9_tank_8 (by decide) ?_
  refine lv_ldc hx hb hown (hts (.constant RX9 168 (1000000)) (List.mem_of_getElem? (i := 1) rfl)) dX9_tank_9 ?_
  refine vp_callSi (W.runS (As := [.int a2, .int 0, .int 1000000]) (rest := []) ⟨hx, hb, hml, hown, hts⟩ (s_X9_is l a2 0 1000000) (va_cwS 3 hts gX9_tank_X9_is rfl rfl rfl (by decide +kernel) ⟨Nat.le_of_ble_eq_true rfl, Nat.le_of_ble_eq_true rfl⟩) ⟨fun a U g mk q => q, fun U hU hW => ⟨rfl, trivial⟩⟩ rfl rfl hl.1 rfl (lv_room (Nat.le_of_ble_eq_true rfl)) dX9_tank_11 ⟨Nat.le_of_ble_eq_true rfl, Nat.le_of_ble_eq_true rfl⟩) (fun r_7 k_8 => ?_)
  rcases k_8 with ⟨rfl, a_9o⟩ | ⟨rfl, a_9, b_10⟩
  · refine lv_if_eq (tgt := 37) hx hb dX9_tank_14 (by decide) (fun c_11 => ?_) (fun c_11 => absurd (by decide) c_11)
    refine lv_iconst (v := 0) hx hb dX9_tank_37 (by decide) ?_
    have hP9 := hP.sub (ws' := []) [] rfl
    have hD9 := hD.sub (ws' := []) [] (by decide) rfl
    have hK9 := hK.sub (tys' := []) [] rfl
    refine W.widen (k := 0) (n := 0) (by omega) (by omega) ?_
    exact W.zret (v := 0) hx hb hr rfl (fun t ht hW => ⟨⟨0, (), rfl, (by rcases a_9o with a_9o | a_9o <;> simp_all), by rw [ht]; exact hP9, va_K.moved hW.alike hK9, hD9⟩, hS.F ht⟩) hS.2.2 dX9_tank_38
  refine lv_if_eq (tgt := 37) hx hb dX9_tank_14 (by decide) (fun c_12 => absurd c_12 (by decide)) (fun c_12 => ?_)
  refine lv_iload_n hx hb dX9_tank_17 rfl (lv_at hl 3 rfl) ?_
  refine lv_iconst (v := 0) hx hb dX9_tank_18 (by decide) ?_
  refine lv_sipush (v := 10000) hx hb dX9_tank_19 (by decide) ?_
  refine vp_callSi (W.runS (As := [.int a3, .int 0, .int 10000]) (rest := []) ⟨hx, hb, hml, hown, hts⟩ (s_X9_is l a3 0 10000) (va_cwS 3 hts gX9_tank_X9_is rfl rfl rfl (by decide +kernel) ⟨Nat.le_of_ble_eq_true rfl, Nat.le_of_ble_eq_true rfl⟩) ⟨fun a U g mk q => q, fun U hU hW => ⟨rfl, trivial⟩⟩ rfl rfl hl.1 rfl (lv_room (Nat.le_of_ble_eq_true rfl)) dX9_tank_22 ⟨Nat.le_of_ble_eq_true rfl, Nat.le_of_ble_eq_true rfl⟩) (fun r_13 k_14 => ?_)
  rcases k_14 with ⟨rfl, a_15o⟩ | ⟨rfl, a_15, b_16⟩
  · refine lv_if_eq (tgt := 37) hx hb dX9_tank_25 (by decide) (fun c_17 => ?_) (fun c_17 => absurd (by decide) c_17)
    refine lv_iconst (v := 0) hx hb dX9_tank_37 (by decide) ?_
    have hP9 := hP.sub (ws' := []) [] rfl
    have hD9 := hD.sub (ws' := []) [] (by decide) rfl
    have hK9 := hK.sub (tys' := []) [] rfl
    refine W.widen (k := 0) (n := 0) (by omega) (by omega) ?_
    exact W.zret (v := 0) hx hb hr rfl (fun t ht hW => ⟨⟨0, (), rfl, (by rcases a_15o with a_15o | a_15o <;> simp_all), by rw [ht]; exact hP9, va_K.moved hW.alike hK9, hD9⟩, hS.F ht⟩) hS.2.2 dX9_tank_38
  refine lv_if_eq (tgt := 37) hx hb dX9_tank_25 (by decide) (fun c_18 => absurd c_18 (by decide)) (fun c_18 => ?_)
  refine lv_aload_n hx hb dX9_tank_28 rfl (lv_at hl 0 rfl) ?_
  refine lv_iload_n hx hb dX9_tank_29 rfl (lv_at hl 1 rfl) ?_
  refine vp_callSi (W.runV (As := [.int a1]) (rest := []) ⟨hx, hb, hml, hown, hts⟩ (s_X9_all l D [(h0, .inr (9, fs)), (ar, .inl (c1, 70, .inl (fun _ => 0))), (ap, .inl (c2, 70, .inl (fun _ => 0)))] [(c1, .int), (c2, .int)] h0 0 _ a1 rfl f3) (cwV 1 hts gX9_tank_X9_all rfl rfl rfl (by decide +kernel) ⟨Nat.le_of_ble_eq_true rfl, Nat.le_of_ble_eq_true rfl⟩) ⟨fun a U g mk q => ⟨q.1, q.2.1, va_K.moved (u := U) (U := U.calling g mk a) (Vm.Alike.refl U.vm) q.2.2⟩, va_recv hK hP (ci := 9) (q0 := 0) rfl rfl, fun U hU hW => ⟨rfl, by rw [hU]; exact hP, va_K.moved hW.alike hK⟩⟩ rfl rfl hl.1 rfl (lv_room (Nat.le_of_ble_eq_true rfl)) dX9_tank_30 ⟨Nat.le_of_ble_eq_true rfl, Nat.le_of_ble_eq_true rfl⟩) (fun r_19 k_20 => ?_)
  subst k_20
  refine lv_iload_n hx hb dX9_tank_33 rfl (lv_at hl 2 rfl) ?_
  refine lv_icmp_le (tgt := 39) hx hb dX9_tank_34 (by decide) (fun c_21 => ?_) (fun c_21 => absurd (i_nlt a_9) c_21)
  refine lv_aload_n hx hb dX9_tank_39 rfl (lv_at hl 0 rfl) ?_
  refine va_get (D := D) (ci := 9) (v := .ref ar) (C := RX9) (T := TX9) (N := 44) hx hb hts hin9 hown hK hP 0 rfl rfl 11 (by decide) (hts (.fieldLink RX9 44 "HoneyHouseModel" "room" "[I") (List.mem_of_getElem? (i := 2) rfl)) (fun _ h9 => h9) f11 dX9_tank_40 ?_
  refine lv_iload_n hx hb dX9_tank_43 rfl (lv_at hl 1 rfl) ?_
  refine lv_iload_n hx hb dX9_tank_44 rfl (lv_at hl 2 rfl) ?_
  refine va_iast (f := fun _ => 0) (n := 70) hx hb hK hP hD hS 1 0 rfl rfl (i_inL a_3 b_4 (by decide)) dX9_tank_45 (fun H locs hP hD hS => ?_)
  have hP : va_P D vwCl [(h0, .inr (9, fs)), (ar, .inl (c1, 70, .inl (upd (fun _ => 0) a1.toNatClampNeg a2))), (ap, .inl (c2, 70, .inl (fun _ => 0)))] H := hP
  have hD : va_D A [(h0, .inr (9, fs)), (ar, .inl (c1, 70, .inl (upd (fun _ => 0) a1.toNatClampNeg a2))), (ap, .inl (c2, 70, .inl (fun _ => 0)))] := hD
  refine lv_aload_n hx hb dX9_tank_46 rfl (lv_at hl 0 rfl) ?_
  refine va_get (D := D) (ci := 9) (v := .ref ap) (C := RX9) (T := TX9) (N := 44) hx hb hts hin9 hown hK hP 0 rfl rfl 12 (by decide) (hts (.fieldLink RX9 47 "HoneyHouseModel" "price" "[I") (List.mem_of_getElem? (i := 3) rfl)) (fun _ h9 => h9) f12 dX9_tank_47 ?_
  refine lv_iload_n hx hb dX9_tank_50 rfl (lv_at hl 1 rfl) ?_
  refine lv_iload_n hx hb dX9_tank_51 rfl (lv_at hl 3 rfl) ?_
  refine va_iast (f := fun _ => 0) (n := 70) hx hb hK hP hD hS 2 1 rfl rfl (i_inL a_3 b_4 (by decide)) dX9_tank_52 (fun H locs hP hD hS => ?_)
  have hP : va_P D vwCl [(h0, .inr (9, fs)), (ar, .inl (c1, 70, .inl (upd (fun _ => 0) a1.toNatClampNeg a2))), (ap, .inl (c2, 70, .inl (upd (fun _ => 0) a1.toNatClampNeg a3)))] H := hP
  have hD : va_D A [(h0, .inr (9, fs)), (ar, .inl (c1, 70, .inl (upd (fun _ => 0) a1.toNatClampNeg a2))), (ap, .inl (c2, 70, .inl (upd (fun _ => 0) a1.toNatClampNeg a3)))] := hD
  refine lv_iconst (v := 1) hx hb dX9_tank_53 (by decide) ?_
  have hP9 := hP.sub (ws' := []) [] rfl
  have hD9 := hD.sub (ws' := []) [] (by decide) rfl
  have hK9 := hK.sub (tys' := []) [] rfl
  refine W.widen (k := 0) (n := 0) (by omega) (by omega) ?_
  exact W.zret (v := 1) hx hb hr rfl (fun t ht hW => ⟨⟨1, (), rfl, (by first | rfl | (simp_all; done) | simp [a_3, b_4, c_6, a_9, b_10, c_12, a_15, b_16, c_18, c_21]), by rw [ht]; exact hP9, va_K.moved hW.alike hK9, hD9⟩, hS.F ht⟩) hS.2.2 dX9_tank_54
theorem i_2k {n : Int32} (a : ¬ n < 0) (b : ¬ 3 < n) : vp_in (2 * n) 8 ∧ vp_in (2 * n + 1) 8 := by
  obtain ⟨j, hj, rfl⟩ := vp_in_of (i_in (N := 4) a b (by decide)) (by omega)
  rcases (show j = 0 ∨ j = 1 ∨ j = 2 ∨ j = 3 by omega) with rfl | rfl | rfl | rfl <;> exact ⟨vp_in_iff.mpr (by decide), vp_in_iff.mpr (by decide)⟩
set_option maxHeartbeats 4000000 in
set_option maxRecDepth 100000 in
theorem q_X9_step (l : Launch) (D : va_G) (h0 st : Nat) (fs : List Value) (c1 : ClassId) (a1 a2 a3 : Int32) (sz : Nat) (f8 : fs[8]? = some (.ref st)) : Met l yX9_step wsX9_step ({ frames := 1, cells := 0, slots := 0, locals := 22 }) (va_Pc [.ref h0, .int a1, .int a2, .int a3] (fun U => U.heap.size = sz ∧ va_P D vwCl [(h0, .inr (9, fs)), (st, .inl (c1, 8, .inl (fun _ => 0)))] U.heap ∧ va_K D vwCl [(c1, .int)] U ∧ va_D (fun _ => True) [(h0, .inr (9, fs)), (st, .inl (c1, 8, .inl (fun _ => 0)))])) (va_Qi (fun (r : Int32) (_ : Unit) => r = if (a1 < 0 ∨ 3 < a1) ∨ (a2 < 0 ∨ 300 < a2) ∨ (a3 < 0 ∨ 100000 < a3) then 0 else 1) (fun (_ : Unit) (t : State) => va_P D vwCl [] t.heap ∧ va_K D vwCl [] t ∧ va_D (va_A [(h0, .inr (9, fs)), (st, .inl (c1, 8, .inl (fun _ => 0)))] sz) []) (va_A [(h0, .inr (9, fs)), (st, .inl (c1, 8, .inl (fun _ => 0)))] sz)) 0 0 (va_A [(h0, .inr (9, fs)), (st, .inl (c1, 8, .inl (fun _ => 0)))] sz) := by
  refine Met.ofW (cc := cX9_step) (maxL := 4) (ret := (some .boolean)) (by decide) rfl ?_
  intro p e s m args below meth c s₁ B hml hv
  obtain ⟨rfl, hsz, hP, hK, hD0⟩ := hv
  have hx := B.exec
  have hb := B.bytes
  have hr := B.returns
  have hts := atoms_spec (ws := wsX9_step) B.pre
  have hown : s.vm.findClass RX9 = some m.cls := findClass_of_methodNamed B.named
  have hlocks := B.notSynchronized
  subst hsz
  have hD := hD0.self (sz := s.heap.size)
  generalize hAe : va_A [(h0, .inr (9, fs)), (st, .inl (c1, 8, .inl (fun _ => 0)))] s.heap.size = A at hD ⊢
  have hA : ∀ q : Nat, s.heap.size ≤ q → A q := fun q h => by rw [← hAe]; exact Or.inr h
  have hS : va_S A s.heap s.heap [] := va_S.rf
  have hP : va_P D vwCl [(h0, .inr (9, fs)), (st, .inl (c1, 8, .inl (fun _ => 0)))] s.heap := hP
  have hin9 : ∀ w ∈ u_ws RX9 TX9 44, w ∈ wsX9_step := (fun _ h9 => List.mem_cons_of_mem _ ((List.mem_append_right _ h9)))
  have hl := lv_entry ([.ref h0, .int a1, .int a2, .int a3]) (n := 4) (Nat.le_of_ble_eq_true rfl)
  rw [lg_entry_eq]
  generalize (lg_sl ([.ref h0, .int a1, .int a2, .int a3]) ++ List.replicate (4 - (lg_sl ([.ref h0, .int a1, .int a2, .int a3])).length) Slot.unset).toArray = ls at hl ⊢
  have hl : lv_has ls 4 [(0, .ref h0), (1, .int a1), (2, .int a2), (3, .int a3)] := hl
  refine lv_iload_n hx hb dX9_step_0 rfl (lv_at hl 1 rfl) ?_
  refine lv_iconst (v := 0) hx hb dX9_step_1 (by decide) ?_
  refine lv_iconst (v := 3) hx hb dX9_step_2 (by decide) ?_
  refine vp_callSi (W.runS (As := [.int a1, .int 0, .int 3]) (rest := []) ⟨hx, hb, hml, hown, hts⟩ (s_X9_is l a1 0 3) (va_cwS 3 hts gX9_step_X9_is rfl rfl rfl (by decide +kernel) ⟨Nat.le_of_ble_eq_true rfl, Nat.le_of_ble_eq_true rfl⟩) ⟨fun a U g mk q => q, fun U hU hW => ⟨rfl, trivial⟩⟩ rfl rfl hl.1 rfl (lv_room (Nat.le_of_ble_eq_true rfl)) dX9_step_3 ⟨Nat.le_of_ble_eq_true rfl, Nat.le_of_ble_eq_true rfl⟩) (fun r_1 k_2 => ?_)
  rcases k_2 with ⟨rfl, a_3o⟩ | ⟨rfl, a_3, b_4⟩
  · refine lv_if_eq (tgt := 31) hx hb dX9_step_6 (by decide) (fun c_5 => ?_) (fun c_5 => absurd (by decide) c_5)
    refine lv_iconst (v := 0) hx hb dX9_step_31 (by decide) ?_
    have hP9 := hP.sub (ws' := []) [] rfl
    have hD9 := hD.sub (ws' := []) [] (by decide) rfl
    have hK9 := hK.sub (tys' := []) [] rfl
    refine W.widen (k := 0) (n := 0) (by omega) (by omega) ?_
    exact W.zret (v := 0) hx hb hr rfl (fun t ht hW => ⟨⟨0, (), rfl, (by rcases a_3o with a_3o | a_3o <;> simp_all), by rw [ht]; exact hP9, va_K.moved hW.alike hK9, hD9⟩, hS.F ht⟩) hS.2.2 dX9_step_32
  refine lv_if_eq (tgt := 31) hx hb dX9_step_6 (by decide) (fun c_6 => absurd c_6 (by decide)) (fun c_6 => ?_)
  refine lv_iload_n hx hb dX9_step_9 rfl (lv_at hl 2 rfl) ?_
  refine lv_iconst (v := 0) hx hb dX9_step_10 (by decide) ?_
  refine lv_sipush (v := 300) hx hb dX9_step_11 (by decide) ?_
  refine vp_callSi (W.runS (As := [.int a2, .int 0, .int 300]) (rest := []) ⟨hx, hb, hml, hown, hts⟩ (s_X9_is l a2 0 300) (va_cwS 3 hts gX9_step_X9_is rfl rfl rfl (by decide +kernel) ⟨Nat.le_of_ble_eq_true rfl, Nat.le_of_ble_eq_true rfl⟩) ⟨fun a U g mk q => q, fun U hU hW => ⟨rfl, trivial⟩⟩ rfl rfl hl.1 rfl (lv_room (Nat.le_of_ble_eq_true rfl)) dX9_step_14 ⟨Nat.le_of_ble_eq_true rfl, Nat.le_of_ble_eq_true rfl⟩) (fun r_7 k_8 => ?_)
  rcases k_8 with ⟨rfl, a_9o⟩ | ⟨rfl, a_9, b_10⟩
  · refine lv_if_eq (tgt := 31) hx hb dX9_step_17 (by decide) (fun c_11 => ?_) (fun c_11 => absurd (by decide) c_11)
    refine lv_iconst (v := 0) hx hb dX9_step_31 (by decide) ?_
    have hP9 := hP.sub (ws' := []) [] rfl
    have hD9 := hD.sub (ws' := []) [] (by decide) rfl
    have hK9 := hK.sub (tys' := []) [] rfl
    refine W.widen (k := 0) (n := 0) (by omega) (by omega) ?_
    exact W.zret (v := 0) hx hb hr rfl (fun t ht hW => ⟨⟨0, (), rfl, (by rcases a_9o with a_9o | a_9o <;> simp_all), by rw [ht]; exact hP9, va_K.moved hW.alike hK9, hD9⟩, hS.F ht⟩) hS.2.2 dX9_step_32
  refine lv_if_eq (tgt := 31) hx hb dX9_step_17 (by decide) (fun c_12 => absurd c_12 (by decide)) (fun c_12 => ?_)
  refine lv_iload_n hx hb dX9_step_20 rfl (lv_at hl 3 rfl) ?_
  refine lv_iconst (v := 0) hx hb dX9_step_21 (by decide) ?_
  refine lv_ldcw hx hb hown (hts (.constant RX9 291 (100000)) (List.mem_of_getElem? (i := 1) rfl)) dX9_step_22 ?_
  refine vp_callSi (W.runS (As := [.int a3, .int 0, .int 100000]) (rest := []) ⟨hx, hb, hml, hown, hts⟩ (s_X9_is l a3 0 100000) (va_cwS 3 hts gX9_step_X9_is rfl rfl rfl (by decide +kernel) ⟨Nat.le_of_ble_eq_true rfl, Nat.le_of_ble_eq_true rfl⟩) ⟨fun a U g mk q => q, fun U hU hW => ⟨rfl, trivial⟩⟩ rfl rfl hl.1 rfl (lv_room (Nat.le_of_ble_eq_true rfl)) dX9_step_25 ⟨Nat.le_of_ble_eq_true rfl, Nat.le_of_ble_eq_true rfl⟩) (fun r_13 k_14 => ?_)
  rcases k_14 with ⟨rfl, a_15o⟩ | ⟨rfl, a_15, b_16⟩
  · refine lv_if_ne (tgt := 33) hx hb dX9_step_28 (by decide) (fun c_17 => absurd (by decide) c_17) (fun c_17 => ?_)
    refine lv_iconst (v := 0) hx hb dX9_step_31 (by decide) ?_
    have hP9 := hP.sub (ws' := []) [] rfl
    have hD9 := hD.sub (ws' := []) [] (by decide) rfl
    have hK9 := hK.sub (tys' := []) [] rfl
    refine W.widen (k := 0) (n := 0) (by omega) (by omega) ?_
    exact W.zret (v := 0) hx hb hr rfl (fun t ht hW => ⟨⟨0, (), rfl, (by rcases a_15o with a_15o | a_15o <;> simp_all), by rw [ht]; exact hP9, va_K.moved hW.alike hK9, hD9⟩, hS.F ht⟩) hS.2.2 dX9_step_32
  refine lv_if_ne (tgt := 33) hx hb dX9_step_28 (by decide) (fun c_18 => ?_) (fun c_18 => absurd c_18 (by decide))
  refine lv_aload_n hx hb dX9_step_33 rfl (lv_at hl 0 rfl) ?_
  refine va_get (D := D) (ci := 9) (v := .ref st) (C := RX9) (T := TX9) (N := 44) hx hb hts hin9 hown hK hP 0 rfl rfl 8 (by decide) (hts (.fieldLink RX9 35 "HoneyHouseModel" "steps" "[I") (List.mem_of_getElem? (i := 2) rfl)) (fun _ h9 => h9) f8 dX9_step_34 ?_
  refine lv_iconst (v := 2) hx hb dX9_step_37 (by decide) ?_
  refine lv_iload_n hx hb dX9_step_38 rfl (lv_at hl 1 rfl) ?_
  refine lv_imul hx hb dX9_step_39 ?_
  refine lv_iload_n hx hb dX9_step_40 rfl (lv_at hl 2 rfl) ?_
  refine va_iast (f := fun _ => 0) (n := 8) hx hb hK hP hD hS 1 0 rfl rfl (i_2k a_3 b_4).1 dX9_step_41 (fun H locs hP hD hS => ?_)
  have hP : va_P D vwCl [(h0, .inr (9, fs)), (st, .inl (c1, 8, .inl (upd (fun _ => 0) (2 * a1).toNatClampNeg a2)))] H := hP
  have hD : va_D A [(h0, .inr (9, fs)), (st, .inl (c1, 8, .inl (upd (fun _ => 0) (2 * a1).toNatClampNeg a2)))] := hD
  refine lv_aload_n hx hb dX9_step_42 rfl (lv_at hl 0 rfl) ?_
  refine va_get (D := D) (ci := 9) (v := .ref st) (C := RX9) (T := TX9) (N := 44) hx hb hts hin9 hown hK hP 0 rfl rfl 8 (by decide) (hts (.fieldLink RX9 35 "HoneyHouseModel" "steps" "[I") (List.mem_of_getElem? (i := 2) rfl)) (fun _ h9 => h9) f8 dX9_step_43 ?_
  refine lv_iconst (v := 2) hx hb dX9_step_46 (by decide) ?_
  refine lv_iload_n hx hb dX9_step_47 rfl (lv_at hl 1 rfl) ?_
  refine lv_imul hx hb dX9_step_48 ?_
  refine lv_iconst (v := 1) hx hb dX9_step_49 (by decide) ?_
  refine lv_iadd hx hb dX9_step_50 ?_
  refine lv_iload_n hx hb dX9_step_51 rfl (lv_at hl 3 rfl) ?_
  refine va_iast (f := upd (fun _ => 0) (2 * a1).toNatClampNeg a2) (n := 8) hx hb hK hP hD hS 1 0 rfl rfl (i_2k a_3 b_4).2 dX9_step_52 (fun H locs hP hD hS => ?_)
  have hP : va_P D vwCl [(h0, .inr (9, fs)), (st, .inl (c1, 8, .inl (upd (upd (fun _ => 0) (2 * a1).toNatClampNeg a2) ((2 * a1) + 1).toNatClampNeg a3)))] H := hP
  have hD : va_D A [(h0, .inr (9, fs)), (st, .inl (c1, 8, .inl (upd (upd (fun _ => 0) (2 * a1).toNatClampNeg a2) ((2 * a1) + 1).toNatClampNeg a3)))] := hD
  refine lv_iconst (v := 1) hx hb dX9_step_53 (by decide) ?_
  have hP9 := hP.sub (ws' := []) [] rfl
  have hD9 := hD.sub (ws' := []) [] (by decide) rfl
  have hK9 := hK.sub (tys' := []) [] rfl
  refine W.widen (k := 0) (n := 0) (by omega) (by omega) ?_
  exact W.zret (v := 1) hx hb hr rfl (fun t ht hW => ⟨⟨1, (), rfl, (by first | rfl | (simp_all; done) | simp [a_3, b_4, c_6, a_9, b_10, c_12, a_15, b_16, c_18]), by rw [ht]; exact hP9, va_K.moved hW.alike hK9, hD9⟩, hS.F ht⟩) hS.2.2 dX9_step_54
set_option maxHeartbeats 4000000 in
set_option maxRecDepth 100000 in
theorem s_X9_isLetter (l : Launch)  : Met l yX9_isLetter wsX9_isLetter ({ frames := 0, cells := 0, slots := 0, locals := 0 }) (va_Pc [.int (-1)] (fun _ => True)) (vp_Si (fun r => r = 0)) 0 0 (fun _ => False) := by
  refine Met.ofW (cc := cX9_isLetter) (maxL := 1) (ret := (some .boolean)) (by decide) rfl ?_
  intro p e s m args below meth c s₁ B hml hv
  obtain ⟨rfl, -⟩ := hv
  have hx := B.exec
  have hb := B.bytes
  have hr := B.returns
  have hts := atoms_spec (ws := wsX9_isLetter) B.pre
  have hown : s.vm.findClass RX9 = some m.cls := findClass_of_methodNamed B.named
  have hlocks := B.notSynchronized
  have hl := lv_entry ([.int (-1)]) (n := 1) (Nat.le_of_ble_eq_true rfl)
  rw [lg_entry_eq]
  generalize (lg_sl ([.int (-1)]) ++ List.replicate (1 - (lg_sl ([.int (-1)])).length) Slot.unset).toArray = ls at hl ⊢
  have hl : lv_has ls 1 [(0, .int (-1))] := hl
  refine lv_iload_n hx hb dX9_isLetter_0 rfl (lv_at hl 0 rfl) ?_
  refine lv_bipush (v := 97) hx hb dX9_isLetter_1 (by decide) ?_
  refine lv_icmp_lt (tgt := 16) hx hb dX9_isLetter_3 (by decide) (fun c_1 => ?_) (fun c_1 => absurd (by decide) c_1)
  refine lv_iconst (v := 0) hx hb dX9_isLetter_16 (by decide) ?_
  exact W.zret (v := 0) hx hb hr rfl (fun t ht hW => ⟨0, rfl, rfl, ht⟩) (fun _ h9 => by cases h9) dX9_isLetter_17
set_option maxHeartbeats 4000000 in
set_option maxRecDepth 100000 in
theorem s_X9_here (l : Launch) (D : va_G) (ws : va_W) (tys : List (ClassId × FieldType)) (h0 k0 : Nat) (fs : List Value) (e0 : ws[k0]? = some (h0, .inr (9, fs))) (f25 : fs[25]? = some (.int 0)) (f26 : fs[26]? = some (.int 0)) : Met l yX9_here wsX9_here ({ frames := 0, cells := 0, slots := 0, locals := 0 }) (va_Pc [.ref h0] (fun U => va_P D vwCl ws U.heap ∧ va_K D vwCl tys U)) (vp_Si (fun r => r = (-1))) 0 0 (fun _ => False) := by
  refine Met.ofW (cc := cX9_here) (maxL := 1) (ret := (some .int)) (by decide) rfl ?_
  intro p e s m args below meth c s₁ B hml hv
  obtain ⟨rfl, hP, hK⟩ := hv
  have hx := B.exec
  have hb := B.bytes
  have hr := B.returns
  have hts := atoms_spec (ws := wsX9_here) B.pre
  have hown : s.vm.findClass RX9 = some m.cls := findClass_of_methodNamed B.named
  have hlocks := B.notSynchronized
  have hin9 : ∀ w ∈ u_ws RX9 TX9 44, w ∈ wsX9_here := (fun _ h9 => List.mem_cons_of_mem _ ((List.mem_append_right _ h9)))
  have hl := lv_entry ([.ref h0]) (n := 1) (Nat.le_of_ble_eq_true rfl)
  rw [lg_entry_eq]
  generalize (lg_sl ([.ref h0]) ++ List.replicate (1 - (lg_sl ([.ref h0])).length) Slot.unset).toArray = ls at hl ⊢
  have hl : lv_has ls 1 [(0, .ref h0)] := hl
  refine lv_aload_n hx hb dX9_here_0 rfl (lv_at hl 0 rfl) ?_
  refine va_get (D := D) (ci := 9) (v := .int 0) (C := RX9) (T := TX9) (N := 44) hx hb hts hin9 hown hK hP k0 e0 rfl 25 (by decide) (hts (.fieldLink RX9 87 "HoneyHouseModel" "at" "I") (List.mem_of_getElem? (i := 1) rfl)) (fun _ h9 => h9) f25 dX9_here_1 ?_
  refine lv_aload_n hx hb dX9_here_4 rfl (lv_at hl 0 rfl) ?_
  refine va_get (D := D) (ci := 9) (v := .int 0) (C := RX9) (T := TX9) (N := 44) hx hb hts hin9 hown hK hP k0 e0 rfl 26 (by decide) (hts (.fieldLink RX9 90 "HoneyHouseModel" "size" "I") (List.mem_of_getElem? (i := 2) rfl)) (fun _ h9 => h9) f26 dX9_here_5 ?_
  refine lv_icmp_ge (tgt := 52) hx hb dX9_here_8 (by decide) (fun c_1 => ?_) (fun c_1 => absurd (by decide) c_1)
  refine lv_aload_n hx hb dX9_here_52 rfl (lv_at hl 0 rfl) ?_
  refine va_get (D := D) (ci := 9) (v := .int 0) (C := RX9) (T := TX9) (N := 44) hx hb hts hin9 hown hK hP k0 e0 rfl 25 (by decide) (hts (.fieldLink RX9 87 "HoneyHouseModel" "at" "I") (List.mem_of_getElem? (i := 1) rfl)) (fun _ h9 => h9) f25 dX9_here_53 ?_
  refine lv_aload_n hx hb dX9_here_56 rfl (lv_at hl 0 rfl) ?_
  refine va_get (D := D) (ci := 9) (v := .int 0) (C := RX9) (T := TX9) (N := 44) hx hb hts hin9 hown hK hP k0 e0 rfl 26 (by decide) (hts (.fieldLink RX9 90 "HoneyHouseModel" "size" "I") (List.mem_of_getElem? (i := 2) rfl)) (fun _ h9 => h9) f26 dX9_here_57 ?_
  refine lv_icmp_ge (tgt := 75) hx hb dX9_here_60 (by decide) (fun c_2 => ?_) (fun c_2 => absurd (by decide) c_2)
  refine lv_iconst (v := (-1)) hx hb dX9_here_75 (by decide) ?_
  exact W.iret (v := (-1)) hx hb hr (fun t ht hW => ⟨(-1), rfl, rfl, ht⟩) (fun _ h9 => by cases h9) dX9_here_76
set_option maxHeartbeats 4000000 in
set_option maxRecDepth 100000 in
theorem q_X9_blame (l : Launch) (D : va_G) (h0 m0 m4 m5 m6 m7 m8 m9 m10 m11 m12 m15 m16 m17 m18 m19 m20 m23 m24 m28 m32 m33 m34 m36 m37 m38 m39 m40 m41 m42 : Nat) (a1 a2 : Int32) (sz : Nat)  : Met l yX9_blame wsX9_blame ({ frames := 0, cells := 0, slots := 0, locals := 0 }) (va_Pc [.ref h0, .int a1, .int a2] (fun U => U.heap.size = sz ∧ va_P D vwCl [(h0, .inr (9, [.ref m0, .int 0, .int 0, .int 0, .ref m4, .ref m5, .ref m6, .ref m7, .ref m8, .ref m9, .ref m10, .ref m11, .ref m12, .int 0, .int 0, .ref m15, .ref m16, .ref m17, .ref m18, .ref m19, .ref m20, .int 0, .int (-1), .ref m23, .ref m24, .int 0, .int 0, .int 0, .ref m28, .int 0, .int 0, .int 0, .ref m32, .ref m33, .ref m34, .int 0, .ref m36, .ref m37, .ref m38, .ref m39, .ref m40, .ref m41, .ref m42, .int 0]))] U.heap ∧ va_K D vwCl [] U ∧ va_D (fun _ => True) [(h0, .inr (9, [.ref m0, .int 0, .int 0, .int 0, .ref m4, .ref m5, .ref m6, .ref m7, .ref m8, .ref m9, .ref m10, .ref m11, .ref m12, .int 0, .int 0, .ref m15, .ref m16, .ref m17, .ref m18, .ref m19, .ref m20, .int 0, .int (-1), .ref m23, .ref m24, .int 0, .int 0, .int 0, .ref m28, .int 0, .int 0, .int 0, .ref m32, .ref m33, .ref m34, .int 0, .ref m36, .ref m37, .ref m38, .ref m39, .ref m40, .ref m41, .ref m42, .int 0]))])) (va_Qv (fun _ : Unit => True) (fun (_ : Unit) (t : State) => va_P D vwCl [(h0, .inr (9, [.ref m0, .int 0, .int 0, .int 0, .ref m4, .ref m5, .ref m6, .ref m7, .ref m8, .ref m9, .ref m10, .ref m11, .ref m12, .int 0, .int 0, .ref m15, .ref m16, .ref m17, .ref m18, .ref m19, .ref m20, .int a1, .int a2, .ref m23, .ref m24, .int 0, .int 0, .int 0, .ref m28, .int 0, .int 0, .int 0, .ref m32, .ref m33, .ref m34, .int 0, .ref m36, .ref m37, .ref m38, .ref m39, .ref m40, .ref m41, .ref m42, .int 0]))] t.heap ∧ va_K D vwCl [] t ∧ va_D (va_A [(h0, .inr (9, [.ref m0, .int 0, .int 0, .int 0, .ref m4, .ref m5, .ref m6, .ref m7, .ref m8, .ref m9, .ref m10, .ref m11, .ref m12, .int 0, .int 0, .ref m15, .ref m16, .ref m17, .ref m18, .ref m19, .ref m20, .int 0, .int (-1), .ref m23, .ref m24, .int 0, .int 0, .int 0, .ref m28, .int 0, .int 0, .int 0, .ref m32, .ref m33, .ref m34, .int 0, .ref m36, .ref m37, .ref m38, .ref m39, .ref m40, .ref m41, .ref m42, .int 0]))] sz) [(h0, .inr (9, [.ref m0, .int 0, .int 0, .int 0, .ref m4, .ref m5, .ref m6, .ref m7, .ref m8, .ref m9, .ref m10, .ref m11, .ref m12, .int 0, .int 0, .ref m15, .ref m16, .ref m17, .ref m18, .ref m19, .ref m20, .int a1, .int a2, .ref m23, .ref m24, .int 0, .int 0, .int 0, .ref m28, .int 0, .int 0, .int 0, .ref m32, .ref m33, .ref m34, .int 0, .ref m36, .ref m37, .ref m38, .ref m39, .ref m40, .ref m41, .ref m42, .int 0]))]) (va_A [(h0, .inr (9, [.ref m0, .int 0, .int 0, .int 0, .ref m4, .ref m5, .ref m6, .ref m7, .ref m8, .ref m9, .ref m10, .ref m11, .ref m12, .int 0, .int 0, .ref m15, .ref m16, .ref m17, .ref m18, .ref m19, .ref m20, .int 0, .int (-1), .ref m23, .ref m24, .int 0, .int 0, .int 0, .ref m28, .int 0, .int 0, .int 0, .ref m32, .ref m33, .ref m34, .int 0, .ref m36, .ref m37, .ref m38, .ref m39, .ref m40, .ref m41, .ref m42, .int 0]))] sz)) 0 0 (va_A [(h0, .inr (9, [.ref m0, .int 0, .int 0, .int 0, .ref m4, .ref m5, .ref m6, .ref m7, .ref m8, .ref m9, .ref m10, .ref m11, .ref m12, .int 0, .int 0, .ref m15, .ref m16, .ref m17, .ref m18, .ref m19, .ref m20, .int 0, .int (-1), .ref m23, .ref m24, .int 0, .int 0, .int 0, .ref m28, .int 0, .int 0, .int 0, .ref m32, .ref m33, .ref m34, .int 0, .ref m36, .ref m37, .ref m38, .ref m39, .ref m40, .ref m41, .ref m42, .int 0]))] sz) := by
  refine Met.ofW (cc := cX9_blame) (maxL := 3) (ret := none) (by decide) rfl ?_
  intro p e s m args below meth c s₁ B hml hv
  obtain ⟨rfl, hsz, hP, hK, hD0⟩ := hv
  have hx := B.exec
  have hb := B.bytes
  have hr := B.returns
  have hts := atoms_spec (ws := wsX9_blame) B.pre
  have hown : s.vm.findClass RX9 = some m.cls := findClass_of_methodNamed B.named
  have hlocks := B.notSynchronized
  subst hsz
  have hD := hD0.self (sz := s.heap.size)
  generalize hAe : va_A [(h0, .inr (9, [.ref m0, .int 0, .int 0, .int 0, .ref m4, .ref m5, .ref m6, .ref m7, .ref m8, .ref m9, .ref m10, .ref m11, .ref m12, .int 0, .int 0, .ref m15, .ref m16, .ref m17, .ref m18, .ref m19, .ref m20, .int 0, .int (-1), .ref m23, .ref m24, .int 0, .int 0, .int 0, .ref m28, .int 0, .int 0, .int 0, .ref m32, .ref m33, .ref m34, .int 0, .ref m36, .ref m37, .ref m38, .ref m39, .ref m40, .ref m41, .ref m42, .int 0]))] s.heap.size = A at hD ⊢
  have hA : ∀ q : Nat, s.heap.size ≤ q → A q := fun q h => by rw [← hAe]; exact Or.inr h
  have hS : va_S A s.heap s.heap [] := va_S.rf
  have hP : va_P D vwCl [(h0, .inr (9, [.ref m0, .int 0, .int 0, .int 0, .ref m4, .ref m5, .ref m6, .ref m7, .ref m8, .ref m9, .ref m10, .ref m11, .ref m12, .int 0, .int 0, .ref m15, .ref m16, .ref m17, .ref m18, .ref m19, .ref m20, .int 0, .int (-1), .ref m23, .ref m24, .int 0, .int 0, .int 0, .ref m28, .int 0, .int 0, .int 0, .ref m32, .ref m33, .ref m34, .int 0, .ref m36, .ref m37, .ref m38, .ref m39, .ref m40, .ref m41, .ref m42, .int 0]))] s.heap := hP
  have hin9 : ∀ w ∈ u_ws RX9 TX9 44, w ∈ wsX9_blame := (fun _ h9 => List.mem_cons_of_mem _ ((List.mem_append_right _ h9)))
  have hl := lv_entry ([.ref h0, .int a1, .int a2]) (n := 3) (Nat.le_of_ble_eq_true rfl)
  rw [lg_entry_eq]
  generalize (lg_sl ([.ref h0, .int a1, .int a2]) ++ List.replicate (3 - (lg_sl ([.ref h0, .int a1, .int a2])).length) Slot.unset).toArray = ls at hl ⊢
  have hl : lv_has ls 3 [(0, .ref h0), (1, .int a1), (2, .int a2)] := hl
  refine lv_aload_n hx hb dX9_blame_0 rfl (lv_at hl 0 rfl) ?_
  refine va_get (D := D) (ci := 9) (v := .int 0) (C := RX9) (T := TX9) (N := 44) hx hb hts hin9 hown hK hP 0 rfl rfl 21 (by decide) (hts (.fieldLink RX9 74 "HoneyHouseModel" "faultKind" "I") (List.mem_of_getElem? (i := 1) rfl)) (fun _ h9 => h9) rfl dX9_blame_1 ?_
  refine lv_if_le (tgt := 8) hx hb dX9_blame_4 (by decide) (fun c_1 => ?_) (fun c_1 => absurd (by decide) c_1)
  refine lv_aload_n hx hb dX9_blame_8 rfl (lv_at hl 0 rfl) ?_
  refine lv_iload_n hx hb dX9_blame_9 rfl (lv_at hl 1 rfl) ?_
  refine va_put (D := D) (ci := 9) (v := .int a1) (ty := .int) (C := RX9) (T := TX9) (N := 44) hx hb hts hin9 tyX9 tyX9_ok nmX9 hown hK hP hD hS 0 rfl rfl 21 (by decide) (hts (.fieldLink RX9 74 "HoneyHouseModel" "faultKind" "I") (List.mem_of_getElem? (i := 1) rfl)) (fun _ h9 => h9) rfl (tyX9_ok 21 (by decide)) rfl rfl (Nat.le_of_ble_eq_true rfl) dX9_blame_10 (fun H locs hP hD hS => ?_)
  have hP : va_P D vwCl [(h0, .inr (9, [.ref m0, .int 0, .int 0, .int 0, .ref m4, .ref m5, .ref m6, .ref m7, .ref m8, .ref m9, .ref m10, .ref m11, .ref m12, .int 0, .int 0, .ref m15, .ref m16, .ref m17, .ref m18, .ref m19, .ref m20, .int a1, .int (-1), .ref m23, .ref m24, .int 0, .int 0, .int 0, .ref m28, .int 0, .int 0, .int 0, .ref m32, .ref m33, .ref m34, .int 0, .ref m36, .ref m37, .ref m38, .ref m39, .ref m40, .ref m41, .ref m42, .int 0]))] H := hP
  have hD : va_D A [(h0, .inr (9, [.ref m0, .int 0, .int 0, .int 0, .ref m4, .ref m5, .ref m6, .ref m7, .ref m8, .ref m9, .ref m10, .ref m11, .ref m12, .int 0, .int 0, .ref m15, .ref m16, .ref m17, .ref m18, .ref m19, .ref m20, .int a1, .int (-1), .ref m23, .ref m24, .int 0, .int 0, .int 0, .ref m28, .int 0, .int 0, .int 0, .ref m32, .ref m33, .ref m34, .int 0, .ref m36, .ref m37, .ref m38, .ref m39, .ref m40, .ref m41, .ref m42, .int 0]))] := hD
  refine lv_aload_n hx hb dX9_blame_13 rfl (lv_at hl 0 rfl) ?_
  refine lv_iload_n hx hb dX9_blame_14 rfl (lv_at hl 2 rfl) ?_
  refine va_put (D := D) (ci := 9) (v := .int a2) (ty := .int) (C := RX9) (T := TX9) (N := 44) hx hb hts hin9 tyX9 tyX9_ok nmX9 hown hK hP hD hS 0 rfl rfl 22 (by decide) (hts (.fieldLink RX9 77 "HoneyHouseModel" "faultPlace" "I") (List.mem_of_getElem? (i := 2) rfl)) (fun _ h9 => h9) rfl (tyX9_ok 22 (by decide)) rfl rfl (Nat.le_of_ble_eq_true rfl) dX9_blame_15 (fun H locs hP hD hS => ?_)
  have hP : va_P D vwCl [(h0, .inr (9, [.ref m0, .int 0, .int 0, .int 0, .ref m4, .ref m5, .ref m6, .ref m7, .ref m8, .ref m9, .ref m10, .ref m11, .ref m12, .int 0, .int 0, .ref m15, .ref m16, .ref m17, .ref m18, .ref m19, .ref m20, .int a1, .int a2, .ref m23, .ref m24, .int 0, .int 0, .int 0, .ref m28, .int 0, .int 0, .int 0, .ref m32, .ref m33, .ref m34, .int 0, .ref m36, .ref m37, .ref m38, .ref m39, .ref m40, .ref m41, .ref m42, .int 0]))] H := hP
  have hD : va_D A [(h0, .inr (9, [.ref m0, .int 0, .int 0, .int 0, .ref m4, .ref m5, .ref m6, .ref m7, .ref m8, .ref m9, .ref m10, .ref m11, .ref m12, .int 0, .int 0, .ref m15, .ref m16, .ref m17, .ref m18, .ref m19, .ref m20, .int a1, .int a2, .ref m23, .ref m24, .int 0, .int 0, .int 0, .ref m28, .int 0, .int 0, .int 0, .ref m32, .ref m33, .ref m34, .int 0, .ref m36, .ref m37, .ref m38, .ref m39, .ref m40, .ref m41, .ref m42, .int 0]))] := hD
  have hP9 := hP.sub (ws' := [(h0, .inr (9, [.ref m0, .int 0, .int 0, .int 0, .ref m4, .ref m5, .ref m6, .ref m7, .ref m8, .ref m9, .ref m10, .ref m11, .ref m12, .int 0, .int 0, .ref m15, .ref m16, .ref m17, .ref m18, .ref m19, .ref m20, .int a1, .int a2, .ref m23, .ref m24, .int 0, .int 0, .int 0, .ref m28, .int 0, .int 0, .int 0, .ref m32, .ref m33, .ref m34, .int 0, .ref m36, .ref m37, .ref m38, .ref m39, .ref m40, .ref m41, .ref m42, .int 0]))]) [0] rfl
  have hD9 := hD.sub (ws' := [(h0, .inr (9, [.ref m0, .int 0, .int 0, .int 0, .ref m4, .ref m5, .ref m6, .ref m7, .ref m8, .ref m9, .ref m10, .ref m11, .ref m12, .int 0, .int 0, .ref m15, .ref m16, .ref m17, .ref m18, .ref m19, .ref m20, .int a1, .int a2, .ref m23, .ref m24, .int 0, .int 0, .int 0, .ref m28, .int 0, .int 0, .int 0, .ref m32, .ref m33, .ref m34, .int 0, .ref m36, .ref m37, .ref m38, .ref m39, .ref m40, .ref m41, .ref m42, .int 0]))]) [0] (by decide) rfl
  have hK9 := hK.sub (tys' := []) [] rfl
  refine W.widen (k := 0) (n := 0) (by omega) (by omega) ?_
  exact W.vret hx hb hr (fun t ht hW => ⟨⟨(), rfl, trivial, by rw [ht]; exact hP9, va_K.moved hW.alike hK9, hD9⟩, hS.F ht⟩) hS.2.2 dX9_blame_18
set_option maxHeartbeats 4000000 in
set_option maxRecDepth 100000 in
theorem q_X9_name (l : Launch) (D : va_G) (h0 m0 m4 m5 m6 m7 m8 m9 m10 m11 m12 m15 m16 m17 m18 m19 m20 m23 m24 m28 m32 m33 m34 m36 m37 m38 m39 m40 m41 m42 : Nat) (sz : Nat)  : Met l yX9_name wsX9_name ({ frames := 1, cells := 0, slots := 0, locals := 22 }) (va_Pc [.ref h0] (fun U => U.heap.size = sz ∧ va_P D vwCl [(h0, .inr (9, [.ref m0, .int 0, .int 0, .int 0, .ref m4, .ref m5, .ref m6, .ref m7, .ref m8, .ref m9, .ref m10, .ref m11, .ref m12, .int 0, .int 0, .ref m15, .ref m16, .ref m17, .ref m18, .ref m19, .ref m20, .int 0, .int (-1), .ref m23, .ref m24, .int 0, .int 0, .int 0, .ref m28, .int 0, .int 0, .int 0, .ref m32, .ref m33, .ref m34, .int 0, .ref m36, .ref m37, .ref m38, .ref m39, .ref m40, .ref m41, .ref m42, .int 0]))] U.heap ∧ va_K D vwCl [] U ∧ va_D (fun _ => True) [(h0, .inr (9, [.ref m0, .int 0, .int 0, .int 0, .ref m4, .ref m5, .ref m6, .ref m7, .ref m8, .ref m9, .ref m10, .ref m11, .ref m12, .int 0, .int 0, .ref m15, .ref m16, .ref m17, .ref m18, .ref m19, .ref m20, .int 0, .int (-1), .ref m23, .ref m24, .int 0, .int 0, .int 0, .ref m28, .int 0, .int 0, .int 0, .ref m32, .ref m33, .ref m34, .int 0, .ref m36, .ref m37, .ref m38, .ref m39, .ref m40, .ref m41, .ref m42, .int 0]))])) (va_Qv (fun _ : Unit => True) (fun (_ : Unit) (t : State) => va_P D vwCl [(h0, .inr (9, [.ref m0, .int 0, .int 0, .int 0, .ref m4, .ref m5, .ref m6, .ref m7, .ref m8, .ref m9, .ref m10, .ref m11, .ref m12, .int 0, .int 0, .ref m15, .ref m16, .ref m17, .ref m18, .ref m19, .ref m20, .int 1, .int 0, .ref m23, .ref m24, .int 0, .int 0, .int 0, .ref m28, .int 0, .int 0, .int 0, .ref m32, .ref m33, .ref m34, .int 0, .ref m36, .ref m37, .ref m38, .ref m39, .ref m40, .ref m41, .ref m42, .int 0]))] t.heap ∧ va_K D vwCl [] t ∧ va_D (va_A [(h0, .inr (9, [.ref m0, .int 0, .int 0, .int 0, .ref m4, .ref m5, .ref m6, .ref m7, .ref m8, .ref m9, .ref m10, .ref m11, .ref m12, .int 0, .int 0, .ref m15, .ref m16, .ref m17, .ref m18, .ref m19, .ref m20, .int 0, .int (-1), .ref m23, .ref m24, .int 0, .int 0, .int 0, .ref m28, .int 0, .int 0, .int 0, .ref m32, .ref m33, .ref m34, .int 0, .ref m36, .ref m37, .ref m38, .ref m39, .ref m40, .ref m41, .ref m42, .int 0]))] sz) [(h0, .inr (9, [.ref m0, .int 0, .int 0, .int 0, .ref m4, .ref m5, .ref m6, .ref m7, .ref m8, .ref m9, .ref m10, .ref m11, .ref m12, .int 0, .int 0, .ref m15, .ref m16, .ref m17, .ref m18, .ref m19, .ref m20, .int 1, .int 0, .ref m23, .ref m24, .int 0, .int 0, .int 0, .ref m28, .int 0, .int 0, .int 0, .ref m32, .ref m33, .ref m34, .int 0, .ref m36, .ref m37, .ref m38, .ref m39, .ref m40, .ref m41, .ref m42, .int 0]))]) (va_A [(h0, .inr (9, [.ref m0, .int 0, .int 0, .int 0, .ref m4, .ref m5, .ref m6, .ref m7, .ref m8, .ref m9, .ref m10, .ref m11, .ref m12, .int 0, .int 0, .ref m15, .ref m16, .ref m17, .ref m18, .ref m19, .ref m20, .int 0, .int (-1), .ref m23, .ref m24, .int 0, .int 0, .int 0, .ref m28, .int 0, .int 0, .int 0, .ref m32, .ref m33, .ref m34, .int 0, .ref m36, .ref m37, .ref m38, .ref m39, .ref m40, .ref m41, .ref m42, .int 0]))] sz)) 0 0 (va_A [(h0, .inr (9, [.ref m0, .int 0, .int 0, .int 0, .ref m4, .ref m5, .ref m6, .ref m7, .ref m8, .ref m9, .ref m10, .ref m11, .ref m12, .int 0, .int 0, .ref m15, .ref m16, .ref m17, .ref m18, .ref m19, .ref m20, .int 0, .int (-1), .ref m23, .ref m24, .int 0, .int 0, .int 0, .ref m28, .int 0, .int 0, .int 0, .ref m32, .ref m33, .ref m34, .int 0, .ref m36, .ref m37, .ref m38, .ref m39, .ref m40, .ref m41, .ref m42, .int 0]))] sz) := by
  refine Met.ofW (cc := cX9_name) (maxL := 3) (ret := none) (by decide) rfl ?_
  intro p e s m args below meth c s₁ B hml hv
  obtain ⟨rfl, hsz, hP, hK, hD0⟩ := hv
  have hx := B.exec
  have hb := B.bytes
  have hr := B.returns
  have hts := atoms_spec (ws := wsX9_name) B.pre
  have hown : s.vm.findClass RX9 = some m.cls := findClass_of_methodNamed B.named
  have hlocks := B.notSynchronized
  subst hsz
  have hD := hD0.self (sz := s.heap.size)
  generalize hAe : va_A [(h0, .inr (9, [.ref m0, .int 0, .int 0, .int 0, .ref m4, .ref m5, .ref m6, .ref m7, .ref m8, .ref m9, .ref m10, .ref m11, .ref m12, .int 0, .int 0, .ref m15, .ref m16, .ref m17, .ref m18, .ref m19, .ref m20, .int 0, .int (-1), .ref m23, .ref m24, .int 0, .int 0, .int 0, .ref m28, .int 0, .int 0, .int 0, .ref m32, .ref m33, .ref m34, .int 0, .ref m36, .ref m37, .ref m38, .ref m39, .ref m40, .ref m41, .ref m42, .int 0]))] s.heap.size = A at hD ⊢
  have hA : ∀ q : Nat, s.heap.size ≤ q → A q := fun q h => by rw [← hAe]; exact Or.inr h
  have hS : va_S A s.heap s.heap [] := va_S.rf
  have hP : va_P D vwCl [(h0, .inr (9, [.ref m0, .int 0, .int 0, .int 0, .ref m4, .ref m5, .ref m6, .ref m7, .ref m8, .ref m9, .ref m10, .ref m11, .ref m12, .int 0, .int 0, .ref m15, .ref m16, .ref m17, .ref m18, .ref m19, .ref m20, .int 0, .int (-1), .ref m23, .ref m24, .int 0, .int 0, .int 0, .ref m28, .int 0, .int 0, .int 0, .ref m32, .ref m33, .ref m34, .int 0, .ref m36, .ref m37, .ref m38, .ref m39, .ref m40, .ref m41, .ref m42, .int 0]))] s.heap := hP
  have hin9 : ∀ w ∈ u_ws RX9 TX9 44, w ∈ wsX9_name := (fun _ h9 => List.mem_cons_of_mem _ ((List.mem_append_right _ h9)))
  have hl := lv_entry ([.ref h0]) (n := 3) (Nat.le_of_ble_eq_true rfl)
  rw [lg_entry_eq]
  generalize (lg_sl ([.ref h0]) ++ List.replicate (3 - (lg_sl ([.ref h0])).length) Slot.unset).toArray = ls at hl ⊢
  have hl : lv_has ls 3 [(0, .ref h0)] := hl
  refine lv_aload_n hx hb dX9_name_0 rfl (lv_at hl 0 rfl) ?_
  refine vp_callSi (W.runV (As := []) (rest := []) ⟨hx, hb, hml, hown, hts⟩ (s_X9_here l D [(h0, .inr (9, [.ref m0, .int 0, .int 0, .int 0, .ref m4, .ref m5, .ref m6, .ref m7, .ref m8, .ref m9, .ref m10, .ref m11, .ref m12, .int 0, .int 0, .ref m15, .ref m16, .ref m17, .ref m18, .ref m19, .ref m20, .int 0, .int (-1), .ref m23, .ref m24, .int 0, .int 0, .int 0, .ref m28, .int 0, .int 0, .int 0, .ref m32, .ref m33, .ref m34, .int 0, .ref m36, .ref m37, .ref m38, .ref m39, .ref m40, .ref m41, .ref m42, .int 0]))] [] h0 0 _ rfl rfl rfl) (cwV 0 hts gX9_name_X9_here rfl rfl rfl (by decide +kernel) ⟨Nat.le_of_ble_eq_true rfl, Nat.le_of_ble_eq_true rfl⟩) ⟨fun a U g mk q => ⟨q.1, q.2.1, va_K.moved (u := U) (U := U.calling g mk a) (Vm.Alike.refl U.vm) q.2.2⟩, va_recv hK hP (ci := 9) (q0 := 0) rfl rfl, fun U hU hW => ⟨rfl, by rw [hU]; exact hP, va_K.moved hW.alike hK⟩⟩ rfl rfl hl.1 rfl (lv_room (Nat.le_of_ble_eq_true rfl)) dX9_name_1 ⟨Nat.le_of_ble_eq_true rfl, Nat.le_of_ble_eq_true rfl⟩) (fun r_1 k_2 => ?_)
  subst k_2
  refine vp_callSi (W.runS (As := [.int (-1)]) (rest := []) ⟨hx, hb, hml, hown, hts⟩ (s_X9_isLetter l ) (va_cwS 1 hts gX9_name_X9_isLetter rfl rfl rfl (by decide +kernel) ⟨Nat.le_of_ble_eq_true rfl, Nat.le_of_ble_eq_true rfl⟩) ⟨fun a U g mk q => q, fun U hU hW => ⟨rfl, trivial⟩⟩ rfl rfl hl.1 rfl (lv_room (Nat.le_of_ble_eq_true rfl)) dX9_name_4 ⟨Nat.le_of_ble_eq_true rfl, Nat.le_of_ble_eq_true rfl⟩) (fun r_3 k_4 => ?_)
  subst k_4
  refine lv_if_ne (tgt := 20) hx hb dX9_name_7 (by decide) (fun c_5 => absurd (by decide) c_5) (fun c_5 => ?_)
  refine lv_aload_n hx hb dX9_name_10 rfl (lv_at hl 0 rfl) ?_
  refine lv_iconst (v := 1) hx hb dX9_name_11 (by decide) ?_
  refine lv_aload_n hx hb dX9_name_12 rfl (lv_at hl 0 rfl) ?_
  refine va_get (D := D) (ci := 9) (v := .int 0) (C := RX9) (T := TX9) (N := 44) hx hb hts hin9 hown hK hP 0 rfl rfl 25 (by decide) (hts (.fieldLink RX9 87 "HoneyHouseModel" "at" "I") (List.mem_of_getElem? (i := 1) rfl)) (fun _ h9 => h9) rfl dX9_name_13 ?_
  have hPc := hP.sub (ws' := [(h0, .inr (9, [.ref m0, .int 0, .int 0, .int 0, .ref m4, .ref m5, .ref m6, .ref m7, .ref m8, .ref m9, .ref m10, .ref m11, .ref m12, .int 0, .int 0, .ref m15, .ref m16, .ref m17, .ref m18, .ref m19, .ref m20, .int 0, .int (-1), .ref m23, .ref m24, .int 0, .int 0, .int 0, .ref m28, .int 0, .int 0, .int 0, .ref m32, .ref m33, .ref m34, .int 0, .ref m36, .ref m37, .ref m38, .ref m39, .ref m40, .ref m41, .ref m42, .int 0]))]) [0] rfl
  have hDc := hD.sub (ws' := [(h0, .inr (9, [.ref m0, .int 0, .int 0, .int 0, .ref m4, .ref m5, .ref m6, .ref m7, .ref m8, .ref m9, .ref m10, .ref m11, .ref m12, .int 0, .int 0, .ref m15, .ref m16, .ref m17, .ref m18, .ref m19, .ref m20, .int 0, .int (-1), .ref m23, .ref m24, .int 0, .int 0, .int 0, .ref m28, .int 0, .int 0, .int 0, .ref m32, .ref m33, .ref m34, .int 0, .ref m36, .ref m37, .ref m38, .ref m39, .ref m40, .ref m41, .ref m42, .int 0]))]) [0] (by decide) rfl
  have hKc := hK.sub (tys' := []) [] rfl
  have hFc := va_free (wc := [(h0, .inr (9, [.ref m0, .int 0, .int 0, .int 0, .ref m4, .ref m5, .ref m6, .ref m7, .ref m8, .ref m9, .ref m10, .ref m11, .ref m12, .int 0, .int 0, .ref m15, .ref m16, .ref m17, .ref m18, .ref m19, .ref m20, .int 0, .int (-1), .ref m23, .ref m24, .int 0, .int 0, .int 0, .ref m28, .int 0, .int 0, .int 0, .ref m32, .ref m33, .ref m34, .int 0, .ref m36, .ref m37, .ref m38, .ref m39, .ref m40, .ref m41, .ref m42, .int 0]))]) hD hS hA [0] rfl
  refine va_callv (va_runV (As := [.int 1, .int 0]) (rest := []) ⟨hx, hb, hml, hown, hts⟩ (q_X9_blame l D h0 m0 m4 m5 m6 m7 m8 m9 m10 m11 m12 m15 m16 m17 m18 m19 m20 m23 m24 m28 m32 m33 m34 m36 m37 m38 m39 m40 m41 m42 1 0 s.heap.size) (cwV 2 hts gX9_name_X9_blame rfl rfl rfl (by decide +kernel) ⟨Nat.le_of_ble_eq_true rfl, Nat.le_of_ble_eq_true rfl⟩) ⟨fun a U g mk q => by obtain ⟨q0, q1, qP, qK, qD⟩ := q; exact ⟨q0, q1, qP, va_K.moved (u := U) (U := U.calling g mk a) (Vm.Alike.refl U.vm) qK, qD⟩, va_recv hKc hPc (ci := 9) (q0 := 0) rfl rfl, fun U hU hW => ⟨rfl, by rw [hU], by rw [hU]; exact hPc, va_K.moved hW.alike hKc, hDc.weaken (fun _ _ _ _ => trivial)⟩⟩ rfl rfl hl.1 rfl (lv_room (Nat.le_of_ble_eq_true rfl)) dX9_name_16 ⟨Nat.le_of_ble_eq_true rfl, Nat.le_of_ble_eq_true rfl⟩) hS (fun q _ h => hFc q h) hFc (fun u t H1 locs ht hvm w_7 hB hz1 hk1 hS => ?_)
  obtain ⟨hP1, hK1, hD1⟩ := hB
  rw [ht] at hP1
  have hK1 := va_K.moved hvm.symm hK1
  obtain ⟨hP, hD⟩ := va_join (wr := []) (w1 := [(h0, .inr (9, [.ref m0, .int 0, .int 0, .int 0, .ref m4, .ref m5, .ref m6, .ref m7, .ref m8, .ref m9, .ref m10, .ref m11, .ref m12, .int 0, .int 0, .ref m15, .ref m16, .ref m17, .ref m18, .ref m19, .ref m20, .int 1, .int 0, .ref m23, .ref m24, .int 0, .int 0, .int 0, .ref m28, .int 0, .int 0, .int 0, .ref m32, .ref m33, .ref m34, .int 0, .ref m36, .ref m37, .ref m38, .ref m39, .ref m40, .ref m41, .ref m42, .int 0]))]) hP hD [0] [] rfl rfl (by decide) (by decide) hk1 hFc hP1 hD1
  have hK := hK.app hK1
  generalize H1 = H at hP hS ⊢
  have hP : va_P D vwCl [(h0, .inr (9, [.ref m0, .int 0, .int 0, .int 0, .ref m4, .ref m5, .ref m6, .ref m7, .ref m8, .ref m9, .ref m10, .ref m11, .ref m12, .int 0, .int 0, .ref m15, .ref m16, .ref m17, .ref m18, .ref m19, .ref m20, .int 1, .int 0, .ref m23, .ref m24, .int 0, .int 0, .int 0, .ref m28, .int 0, .int 0, .int 0, .ref m32, .ref m33, .ref m34, .int 0, .ref m36, .ref m37, .ref m38, .ref m39, .ref m40, .ref m41, .ref m42, .int 0]))] H := hP
  have hD : va_D A [(h0, .inr (9, [.ref m0, .int 0, .int 0, .int 0, .ref m4, .ref m5, .ref m6, .ref m7, .ref m8, .ref m9, .ref m10, .ref m11, .ref m12, .int 0, .int 0, .ref m15, .ref m16, .ref m17, .ref m18, .ref m19, .ref m20, .int 1, .int 0, .ref m23, .ref m24, .int 0, .int 0, .int 0, .ref m28, .int 0, .int 0, .int 0, .ref m32, .ref m33, .ref m34, .int 0, .ref m36, .ref m37, .ref m38, .ref m39, .ref m40, .ref m41, .ref m42, .int 0]))] := hD
  have hK : va_K D vwCl [] s := hK
  have hP9 := hP.sub (ws' := [(h0, .inr (9, [.ref m0, .int 0, .int 0, .int 0, .ref m4, .ref m5, .ref m6, .ref m7, .ref m8, .ref m9, .ref m10, .ref m11, .ref m12, .int 0, .int 0, .ref m15, .ref m16, .ref m17, .ref m18, .ref m19, .ref m20, .int 1, .int 0, .ref m23, .ref m24, .int 0, .int 0, .int 0, .ref m28, .int 0, .int 0, .int 0, .ref m32, .ref m33, .ref m34, .int 0, .ref m36, .ref m37, .ref m38, .ref m39, .ref m40, .ref m41, .ref m42, .int 0]))]) [0] rfl
  have hD9 := hD.sub (ws' := [(h0, .inr (9, [.ref m0, .int 0, .int 0, .int 0, .ref m4, .ref m5, .ref m6, .ref m7, .ref m8, .ref m9, .ref m10, .ref m11, .ref m12, .int 0, .int 0, .ref m15, .ref m16, .ref m17, .ref m18, .ref m19, .ref m20, .int 1, .int 0, .ref m23, .ref m24, .int 0, .int 0, .int 0, .ref m28, .int 0, .int 0, .int 0, .ref m32, .ref m33, .ref m34, .int 0, .ref m36, .ref m37, .ref m38, .ref m39, .ref m40, .ref m41, .ref m42, .int 0]))]) [0] (by decide) rfl
  have hK9 := hK.sub (tys' := []) [] rfl
  refine W.widen (k := 0) (n := 0) (by omega) (by omega) ?_
  exact W.vret hx hb hr (fun t ht hW => ⟨⟨(), rfl, trivial, by rw [ht]; exact hP9, va_K.moved hW.alike hK9, hD9⟩, hS.F ht⟩) hS.2.2 dX9_name_19
set_option maxHeartbeats 4000000 in
set_option maxRecDepth 100000 in
theorem q_X9_reads (l : Launch) (D : va_G) (h0 m0 m4 m5 m6 m7 m8 m9 m10 m11 m12 m15 m16 m17 m18 m19 m20 m23 m24 m28 m32 m33 m34 m36 m37 m38 m39 m40 m41 m42 : Nat) (sz : Nat)  : Met l yX9_reads wsX9_reads ({ frames := 2, cells := 0, slots := 0, locals := 44 }) (va_Pc [.ref h0] (fun U => U.heap.size = sz ∧ va_P D vwCl [(h0, .inr (9, [.ref m0, .int 0, .int 0, .int 0, .ref m4, .ref m5, .ref m6, .ref m7, .ref m8, .ref m9, .ref m10, .ref m11, .ref m12, .int 0, .int 0, .ref m15, .ref m16, .ref m17, .ref m18, .ref m19, .ref m20, .int 0, .int (-1), .ref m23, .ref m24, .int 0, .int 0, .int 0, .ref m28, .int 0, .int 0, .int 0, .ref m32, .ref m33, .ref m34, .int 0, .ref m36, .ref m37, .ref m38, .ref m39, .ref m40, .ref m41, .ref m42, .int 0]))] U.heap ∧ va_K D vwCl [] U ∧ va_D (fun _ => True) [(h0, .inr (9, [.ref m0, .int 0, .int 0, .int 0, .ref m4, .ref m5, .ref m6, .ref m7, .ref m8, .ref m9, .ref m10, .ref m11, .ref m12, .int 0, .int 0, .ref m15, .ref m16, .ref m17, .ref m18, .ref m19, .ref m20, .int 0, .int (-1), .ref m23, .ref m24, .int 0, .int 0, .int 0, .ref m28, .int 0, .int 0, .int 0, .ref m32, .ref m33, .ref m34, .int 0, .ref m36, .ref m37, .ref m38, .ref m39, .ref m40, .ref m41, .ref m42, .int 0]))])) (va_Qv (fun _ : Unit => True) (fun (_ : Unit) (t : State) => va_P D vwCl [(h0, .inr (9, [.ref m0, .int 0, .int 0, .int 0, .ref m4, .ref m5, .ref m6, .ref m7, .ref m8, .ref m9, .ref m10, .ref m11, .ref m12, .int 0, .int 0, .ref m15, .ref m16, .ref m17, .ref m18, .ref m19, .ref m20, .int 1, .int 0, .ref m23, .ref m24, .int 0, .int 0, .int 0, .ref m28, .int 0, .int 0, .int 0, .ref m32, .ref m33, .ref m34, .int 0, .ref m36, .ref m37, .ref m38, .ref m39, .ref m40, .ref m41, .ref m42, .int 0]))] t.heap ∧ va_K D vwCl [] t ∧ va_D (va_A [(h0, .inr (9, [.ref m0, .int 0, .int 0, .int 0, .ref m4, .ref m5, .ref m6, .ref m7, .ref m8, .ref m9, .ref m10, .ref m11, .ref m12, .int 0, .int 0, .ref m15, .ref m16, .ref m17, .ref m18, .ref m19, .ref m20, .int 0, .int (-1), .ref m23, .ref m24, .int 0, .int 0, .int 0, .ref m28, .int 0, .int 0, .int 0, .ref m32, .ref m33, .ref m34, .int 0, .ref m36, .ref m37, .ref m38, .ref m39, .ref m40, .ref m41, .ref m42, .int 0]))] sz) [(h0, .inr (9, [.ref m0, .int 0, .int 0, .int 0, .ref m4, .ref m5, .ref m6, .ref m7, .ref m8, .ref m9, .ref m10, .ref m11, .ref m12, .int 0, .int 0, .ref m15, .ref m16, .ref m17, .ref m18, .ref m19, .ref m20, .int 1, .int 0, .ref m23, .ref m24, .int 0, .int 0, .int 0, .ref m28, .int 0, .int 0, .int 0, .ref m32, .ref m33, .ref m34, .int 0, .ref m36, .ref m37, .ref m38, .ref m39, .ref m40, .ref m41, .ref m42, .int 0]))]) (va_A [(h0, .inr (9, [.ref m0, .int 0, .int 0, .int 0, .ref m4, .ref m5, .ref m6, .ref m7, .ref m8, .ref m9, .ref m10, .ref m11, .ref m12, .int 0, .int 0, .ref m15, .ref m16, .ref m17, .ref m18, .ref m19, .ref m20, .int 0, .int (-1), .ref m23, .ref m24, .int 0, .int 0, .int 0, .ref m28, .int 0, .int 0, .int 0, .ref m32, .ref m33, .ref m34, .int 0, .ref m36, .ref m37, .ref m38, .ref m39, .ref m40, .ref m41, .ref m42, .int 0]))] sz)) 0 0 (va_A [(h0, .inr (9, [.ref m0, .int 0, .int 0, .int 0, .ref m4, .ref m5, .ref m6, .ref m7, .ref m8, .ref m9, .ref m10, .ref m11, .ref m12, .int 0, .int 0, .ref m15, .ref m16, .ref m17, .ref m18, .ref m19, .ref m20, .int 0, .int (-1), .ref m23, .ref m24, .int 0, .int 0, .int 0, .ref m28, .int 0, .int 0, .int 0, .ref m32, .ref m33, .ref m34, .int 0, .ref m36, .ref m37, .ref m38, .ref m39, .ref m40, .ref m41, .ref m42, .int 0]))] sz) := by
  refine Met.ofW (cc := cX9_reads) (maxL := 1) (ret := none) (by decide) rfl ?_
  intro p e s m args below meth c s₁ B hml hv
  obtain ⟨rfl, hsz, hP, hK, hD0⟩ := hv
  have hx := B.exec
  have hb := B.bytes
  have hr := B.returns
  have hts := atoms_spec (ws := wsX9_reads) B.pre
  have hown : s.vm.findClass RX9 = some m.cls := findClass_of_methodNamed B.named
  have hlocks := B.notSynchronized
  subst hsz
  have hD := hD0.self (sz := s.heap.size)
  generalize hAe : va_A [(h0, .inr (9, [.ref m0, .int 0, .int 0, .int 0, .ref m4, .ref m5, .ref m6, .ref m7, .ref m8, .ref m9, .ref m10, .ref m11, .ref m12, .int 0, .int 0, .ref m15, .ref m16, .ref m17, .ref m18, .ref m19, .ref m20, .int 0, .int (-1), .ref m23, .ref m24, .int 0, .int 0, .int 0, .ref m28, .int 0, .int 0, .int 0, .ref m32, .ref m33, .ref m34, .int 0, .ref m36, .ref m37, .ref m38, .ref m39, .ref m40, .ref m41, .ref m42, .int 0]))] s.heap.size = A at hD ⊢
  have hA : ∀ q : Nat, s.heap.size ≤ q → A q := fun q h => by rw [← hAe]; exact Or.inr h
  have hS : va_S A s.heap s.heap [] := va_S.rf
  have hP : va_P D vwCl [(h0, .inr (9, [.ref m0, .int 0, .int 0, .int 0, .ref m4, .ref m5, .ref m6, .ref m7, .ref m8, .ref m9, .ref m10, .ref m11, .ref m12, .int 0, .int 0, .ref m15, .ref m16, .ref m17, .ref m18, .ref m19, .ref m20, .int 0, .int (-1), .ref m23, .ref m24, .int 0, .int 0, .int 0, .ref m28, .int 0, .int 0, .int 0, .ref m32, .ref m33, .ref m34, .int 0, .ref m36, .ref m37, .ref m38, .ref m39, .ref m40, .ref m41, .ref m42, .int 0]))] s.heap := hP
  have hin9 : ∀ w ∈ u_ws RX9 TX9 44, w ∈ wsX9_reads := (fun _ h9 => List.mem_cons_of_mem _ ((List.mem_append_right _ h9)))
  have hl := lv_entry ([.ref h0]) (n := 1) (Nat.le_of_ble_eq_true rfl)
  rw [lg_entry_eq]
  generalize (lg_sl ([.ref h0]) ++ List.replicate (1 - (lg_sl ([.ref h0])).length) Slot.unset).toArray = ls at hl ⊢
  have hl : lv_has ls 1 [(0, .ref h0)] := hl
  refine lv_aload_n hx hb dX9_reads_0 rfl (lv_at hl 0 rfl) ?_
  refine lv_iconst (v := 0) hx hb dX9_reads_1 (by decide) ?_
  refine va_put (D := D) (ci := 9) (v := .int 0) (ty := .int) (C := RX9) (T := TX9) (N := 44) hx hb hts hin9 tyX9 tyX9_ok nmX9 hown hK hP hD hS 0 rfl rfl 25 (by decide) (hts (.fieldLink RX9 87 "HoneyHouseModel" "at" "I") (List.mem_of_getElem? (i := 1) rfl)) (fun _ h9 => h9) rfl (tyX9_ok 25 (by decide)) rfl rfl (Nat.le_of_ble_eq_true rfl) dX9_reads_2 (fun H locs hP hD hS => ?_)
  have hP : va_P D vwCl [(h0, .inr (9, [.ref m0, .int 0, .int 0, .int 0, .ref m4, .ref m5, .ref m6, .ref m7, .ref m8, .ref m9, .ref m10, .ref m11, .ref m12, .int 0, .int 0, .ref m15, .ref m16, .ref m17, .ref m18, .ref m19, .ref m20, .int 0, .int (-1), .ref m23, .ref m24, .int 0, .int 0, .int 0, .ref m28, .int 0, .int 0, .int 0, .ref m32, .ref m33, .ref m34, .int 0, .ref m36, .ref m37, .ref m38, .ref m39, .ref m40, .ref m41, .ref m42, .int 0]))] H := hP
  have hD : va_D A [(h0, .inr (9, [.ref m0, .int 0, .int 0, .int 0, .ref m4, .ref m5, .ref m6, .ref m7, .ref m8, .ref m9, .ref m10, .ref m11, .ref m12, .int 0, .int 0, .ref m15, .ref m16, .ref m17, .ref m18, .ref m19, .ref m20, .int 0, .int (-1), .ref m23, .ref m24, .int 0, .int 0, .int 0, .ref m28, .int 0, .int 0, .int 0, .ref m32, .ref m33, .ref m34, .int 0, .ref m36, .ref m37, .ref m38, .ref m39, .ref m40, .ref m41, .ref m42, .int 0]))] := hD
  refine lv_aload_n hx hb dX9_reads_5 rfl (lv_at hl 0 rfl) ?_
  have hPc := hP.sub (ws' := [(h0, .inr (9, [.ref m0, .int 0, .int 0, .int 0, .ref m4, .ref m5, .ref m6, .ref m7, .ref m8, .ref m9, .ref m10, .ref m11, .ref m12, .int 0, .int 0, .ref m15, .ref m16, .ref m17, .ref m18, .ref m19, .ref m20, .int 0, .int (-1), .ref m23, .ref m24, .int 0, .int 0, .int 0, .ref m28, .int 0, .int 0, .int 0, .ref m32, .ref m33, .ref m34, .int 0, .ref m36, .ref m37, .ref m38, .ref m39, .ref m40, .ref m41, .ref m42, .int 0]))]) [0] rfl
  have hDc := hD.sub (ws' := [(h0, .inr (9, [.ref m0, .int 0, .int 0, .int 0, .ref m4, .ref m5, .ref m6, .ref m7, .ref m8, .ref m9, .ref m10, .ref m11, .ref m12, .int 0, .int 0, .ref m15, .ref m16, .ref m17, .ref m18, .ref m19, .ref m20, .int 0, .int (-1), .ref m23, .ref m24, .int 0, .int 0, .int 0, .ref m28, .int 0, .int 0, .int 0, .ref m32, .ref m33, .ref m34, .int 0, .ref m36, .ref m37, .ref m38, .ref m39, .ref m40, .ref m41, .ref m42, .int 0]))]) [0] (by decide) rfl
  have hKc := hK.sub (tys' := []) [] rfl
  have hFc := va_free (wc := [(h0, .inr (9, [.ref m0, .int 0, .int 0, .int 0, .ref m4, .ref m5, .ref m6, .ref m7, .ref m8, .ref m9, .ref m10, .ref m11, .ref m12, .int 0, .int 0, .ref m15, .ref m16, .ref m17, .ref m18, .ref m19, .ref m20, .int 0, .int (-1), .ref m23, .ref m24, .int 0, .int 0, .int 0, .ref m28, .int 0, .int 0, .int 0, .ref m32, .ref m33, .ref m34, .int 0, .ref m36, .ref m37, .ref m38, .ref m39, .ref m40, .ref m41, .ref m42, .int 0]))]) hD hS hA [0] rfl
  refine va_callv (va_runV (As := []) (rest := []) ⟨hx, hb, hml, hown, hts⟩ (q_X9_name l D h0 m0 m4 m5 m6 m7 m8 m9 m10 m11 m12 m15 m16 m17 m18 m19 m20 m23 m24 m28 m32 m33 m34 m36 m37 m38 m39 m40 m41 m42 H.size) (cwV 0 hts gX9_reads_X9_name rfl rfl rfl (by decide +kernel) ⟨Nat.le_of_ble_eq_true rfl, Nat.le_of_ble_eq_true rfl⟩) ⟨fun a U g mk q => by obtain ⟨q0, q1, qP, qK, qD⟩ := q; exact ⟨q0, q1, qP, va_K.moved (u := U) (U := U.calling g mk a) (Vm.Alike.refl U.vm) qK, qD⟩, va_recv hKc hPc (ci := 9) (q0 := 0) rfl rfl, fun U hU hW => ⟨rfl, by rw [hU], by rw [hU]; exact hPc, va_K.moved hW.alike hKc, hDc.weaken (fun _ _ _ _ => trivial)⟩⟩ rfl rfl hl.1 rfl (lv_room (Nat.le_of_ble_eq_true rfl)) dX9_reads_6 ⟨Nat.le_of_ble_eq_true rfl, Nat.le_of_ble_eq_true rfl⟩) hS (fun q _ h => hFc q h) hFc (fun u t H1 locs ht hvm w_2 hB hz1 hk1 hS => ?_)
  obtain ⟨hP1, hK1, hD1⟩ := hB
  rw [ht] at hP1
  have hK1 := va_K.moved hvm.symm hK1
  obtain ⟨hP, hD⟩ := va_join (wr := []) (w1 := [(h0, .inr (9, [.ref m0, .int 0, .int 0, .int 0, .ref m4, .ref m5, .ref m6, .ref m7, .ref m8, .ref m9, .ref m10, .ref m11, .ref m12, .int 0, .int 0, .ref m15, .ref m16, .ref m17, .ref m18, .ref m19, .ref m20, .int 1, .int 0, .ref m23, .ref m24, .int 0, .int 0, .int 0, .ref m28, .int 0, .int 0, .int 0, .ref m32, .ref m33, .ref m34, .int 0, .ref m36, .ref m37, .ref m38, .ref m39, .ref m40, .ref m41, .ref m42, .int 0]))]) hP hD [0] [] rfl rfl (by decide) (by decide) hk1 hFc hP1 hD1
  have hK := hK.app hK1
  generalize H1 = H at hP hS ⊢
  have hP : va_P D vwCl [(h0, .inr (9, [.ref m0, .int 0, .int 0, .int 0, .ref m4, .ref m5, .ref m6, .ref m7, .ref m8, .ref m9, .ref m10, .ref m11, .ref m12, .int 0, .int 0, .ref m15, .ref m16, .ref m17, .ref m18, .ref m19, .ref m20, .int 1, .int 0, .ref m23, .ref m24, .int 0, .int 0, .int 0, .ref m28, .int 0, .int 0, .int 0, .ref m32, .ref m33, .ref m34, .int 0, .ref m36, .ref m37, .ref m38, .ref m39, .ref m40, .ref m41, .ref m42, .int 0]))] H := hP
  have hD : va_D A [(h0, .inr (9, [.ref m0, .int 0, .int 0, .int 0, .ref m4, .ref m5, .ref m6, .ref m7, .ref m8, .ref m9, .ref m10, .ref m11, .ref m12, .int 0, .int 0, .ref m15, .ref m16, .ref m17, .ref m18, .ref m19, .ref m20, .int 1, .int 0, .ref m23, .ref m24, .int 0, .int 0, .int 0, .ref m28, .int 0, .int 0, .int 0, .ref m32, .ref m33, .ref m34, .int 0, .ref m36, .ref m37, .ref m38, .ref m39, .ref m40, .ref m41, .ref m42, .int 0]))] := hD
  have hK : va_K D vwCl [] s := hK
  refine lv_aload_n hx hb dX9_reads_9 rfl (lv_at hl 0 rfl) ?_
  refine va_get (D := D) (ci := 9) (v := .int 1) (C := RX9) (T := TX9) (N := 44) hx hb hts hin9 hown hK hP 0 rfl rfl 21 (by decide) (hts (.fieldLink RX9 74 "HoneyHouseModel" "faultKind" "I") (List.mem_of_getElem? (i := 2) rfl)) (fun _ h9 => h9) rfl dX9_reads_10 ?_
  refine lv_if_ne (tgt := 22) hx hb dX9_reads_13 (by decide) (fun c_3 => ?_) (fun c_3 => absurd c_3 (by decide))
  refine lv_aload_n hx hb dX9_reads_22 rfl (lv_at hl 0 rfl) ?_
  refine va_get (D := D) (ci := 9) (v := .int 1) (C := RX9) (T := TX9) (N := 44) hx hb hts hin9 hown hK hP 0 rfl rfl 21 (by decide) (hts (.fieldLink RX9 74 "HoneyHouseModel" "faultKind" "I") (List.mem_of_getElem? (i := 2) rfl)) (fun _ h9 => h9) rfl dX9_reads_23 ?_
  refine lv_if_ne (tgt := 33) hx hb dX9_reads_26 (by decide) (fun c_4 => ?_) (fun c_4 => absurd c_4 (by decide))
  refine lv_aload_n hx hb dX9_reads_33 rfl (lv_at hl 0 rfl) ?_
  refine va_get (D := D) (ci := 9) (v := .int 1) (C := RX9) (T := TX9) (N := 44) hx hb hts hin9 hown hK hP 0 rfl rfl 21 (by decide) (hts (.fieldLink RX9 74 "HoneyHouseModel" "faultKind" "I") (List.mem_of_getElem? (i := 2) rfl)) (fun _ h9 => h9) rfl dX9_reads_34 ?_
  refine lv_if_le (tgt := 41) hx hb dX9_reads_37 (by decide) (fun c_5 => absurd c_5 (by decide)) (fun c_5 => ?_)
  have hP9 := hP.sub (ws' := [(h0, .inr (9, [.ref m0, .int 0, .int 0, .int 0, .ref m4, .ref m5, .ref m6, .ref m7, .ref m8, .ref m9, .ref m10, .ref m11, .ref m12, .int 0, .int 0, .ref m15, .ref m16, .ref m17, .ref m18, .ref m19, .ref m20, .int 1, .int 0, .ref m23, .ref m24, .int 0, .int 0, .int 0, .ref m28, .int 0, .int 0, .int 0, .ref m32, .ref m33, .ref m34, .int 0, .ref m36, .ref m37, .ref m38, .ref m39, .ref m40, .ref m41, .ref m42, .int 0]))]) [0] rfl
  have hD9 := hD.sub (ws' := [(h0, .inr (9, [.ref m0, .int 0, .int 0, .int 0, .ref m4, .ref m5, .ref m6, .ref m7, .ref m8, .ref m9, .ref m10, .ref m11, .ref m12, .int 0, .int 0, .ref m15, .ref m16, .ref m17, .ref m18, .ref m19, .ref m20, .int 1, .int 0, .ref m23, .ref m24, .int 0, .int 0, .int 0, .ref m28, .int 0, .int 0, .int 0, .ref m32, .ref m33, .ref m34, .int 0, .ref m36, .ref m37, .ref m38, .ref m39, .ref m40, .ref m41, .ref m42, .int 0]))]) [0] (by decide) rfl
  have hK9 := hK.sub (tys' := []) [] rfl
  refine W.widen (k := 0) (n := 0) (by omega) (by omega) ?_
  exact W.vret hx hb hr (fun t ht hW => ⟨⟨(), rfl, trivial, by rw [ht]; exact hP9, va_K.moved hW.alike hK9, hD9⟩, hS.F ht⟩) hS.2.2 dX9_reads_40
set_option maxHeartbeats 4000000 in
set_option maxRecDepth 100000 in
theorem q_X9_rule (l : Launch) (D : va_G) (h0 m0 m4 m5 m6 m7 m8 m9 m10 m11 m12 m15 m16 m17 m18 m19 m20 m23 m24 m28 m32 m33 m34 m36 m37 m38 m39 m40 m41 m42 : Nat) (sz : Nat)  : Met l yX9_rule wsX9_rule ({ frames := 3, cells := 0, slots := 0, locals := 64 }) (va_Pc [.ref h0] (fun U => U.heap.size = sz ∧ va_P D vwCl [(h0, .inr (9, [.ref m0, .int 0, .int 0, .int 0, .ref m4, .ref m5, .ref m6, .ref m7, .ref m8, .ref m9, .ref m10, .ref m11, .ref m12, .int 0, .int 0, .ref m15, .ref m16, .ref m17, .ref m18, .ref m19, .ref m20, .int 0, .int (-1), .ref m23, .ref m24, .int 0, .int 0, .int 0, .ref m28, .int 0, .int 0, .int 0, .ref m32, .ref m33, .ref m34, .int 0, .ref m36, .ref m37, .ref m38, .ref m39, .ref m40, .ref m41, .ref m42, .int 0]))] U.heap ∧ va_K D vwCl [] U ∧ va_D (fun _ => True) [(h0, .inr (9, [.ref m0, .int 0, .int 0, .int 0, .ref m4, .ref m5, .ref m6, .ref m7, .ref m8, .ref m9, .ref m10, .ref m11, .ref m12, .int 0, .int 0, .ref m15, .ref m16, .ref m17, .ref m18, .ref m19, .ref m20, .int 0, .int (-1), .ref m23, .ref m24, .int 0, .int 0, .int 0, .ref m28, .int 0, .int 0, .int 0, .ref m32, .ref m33, .ref m34, .int 0, .ref m36, .ref m37, .ref m38, .ref m39, .ref m40, .ref m41, .ref m42, .int 0]))])) (va_Qi (fun (r : Int32) (_ : Unit) => r = (-1)) (fun (_ : Unit) (t : State) => va_P D vwCl [] t.heap ∧ va_K D vwCl [] t ∧ va_D (va_A [(h0, .inr (9, [.ref m0, .int 0, .int 0, .int 0, .ref m4, .ref m5, .ref m6, .ref m7, .ref m8, .ref m9, .ref m10, .ref m11, .ref m12, .int 0, .int 0, .ref m15, .ref m16, .ref m17, .ref m18, .ref m19, .ref m20, .int 0, .int (-1), .ref m23, .ref m24, .int 0, .int 0, .int 0, .ref m28, .int 0, .int 0, .int 0, .ref m32, .ref m33, .ref m34, .int 0, .ref m36, .ref m37, .ref m38, .ref m39, .ref m40, .ref m41, .ref m42, .int 0]))] sz) []) (va_A [(h0, .inr (9, [.ref m0, .int 0, .int 0, .int 0, .ref m4, .ref m5, .ref m6, .ref m7, .ref m8, .ref m9, .ref m10, .ref m11, .ref m12, .int 0, .int 0, .ref m15, .ref m16, .ref m17, .ref m18, .ref m19, .ref m20, .int 0, .int (-1), .ref m23, .ref m24, .int 0, .int 0, .int 0, .ref m28, .int 0, .int 0, .int 0, .ref m32, .ref m33, .ref m34, .int 0, .ref m36, .ref m37, .ref m38, .ref m39, .ref m40, .ref m41, .ref m42, .int 0]))] sz)) 0 0 (va_A [(h0, .inr (9, [.ref m0, .int 0, .int 0, .int 0, .ref m4, .ref m5, .ref m6, .ref m7, .ref m8, .ref m9, .ref m10, .ref m11, .ref m12, .int 0, .int 0, .ref m15, .ref m16, .ref m17, .ref m18, .ref m19, .ref m20, .int 0, .int (-1), .ref m23, .ref m24, .int 0, .int 0, .int 0, .ref m28, .int 0, .int 0, .int 0, .ref m32, .ref m33, .ref m34, .int 0, .ref m36, .ref m37, .ref m38, .ref m39, .ref m40, .ref m41, .ref m42, .int 0]))] sz) := by
  refine Met.ofW (cc := cX9_rule) (maxL := 1) (ret := (some .int)) (by decide) rfl ?_
  intro p e s m args below meth c s₁ B hml hv
  obtain ⟨rfl, hsz, hP, hK, hD0⟩ := hv
  have hx := B.exec
  have hb := B.bytes
  have hr := B.returns
  have hts := atoms_spec (ws := wsX9_rule) B.pre
  have hown : s.vm.findClass RX9 = some m.cls := findClass_of_methodNamed B.named
  have hlocks := B.notSynchronized
  subst hsz
  have hD := hD0.self (sz := s.heap.size)
  generalize hAe : va_A [(h0, .inr (9, [.ref m0, .int 0, .int 0, .int 0, .ref m4, .ref m5, .ref m6, .ref m7, .ref m8, .ref m9, .ref m10, .ref m11, .ref m12, .int 0, .int 0, .ref m15, .ref m16, .ref m17, .ref m18, .ref m19, .ref m20, .int 0, .int (-1), .ref m23, .ref m24, .int 0, .int 0, .int 0, .ref m28, .int 0, .int 0, .int 0, .ref m32, .ref m33, .ref m34, .int 0, .ref m36, .ref m37, .ref m38, .ref m39, .ref m40, .ref m41, .ref m42, .int 0]))] s.heap.size = A at hD ⊢
  have hA : ∀ q : Nat, s.heap.size ≤ q → A q := fun q h => by rw [← hAe]; exact Or.inr h
  have hS : va_S A s.heap s.heap [] := va_S.rf
  have hP : va_P D vwCl [(h0, .inr (9, [.ref m0, .int 0, .int 0, .int 0, .ref m4, .ref m5, .ref m6, .ref m7, .ref m8, .ref m9, .ref m10, .ref m11, .ref m12, .int 0, .int 0, .ref m15, .ref m16, .ref m17, .ref m18, .ref m19, .ref m20, .int 0, .int (-1), .ref m23, .ref m24, .int 0, .int 0, .int 0, .ref m28, .int 0, .int 0, .int 0, .ref m32, .ref m33, .ref m34, .int 0, .ref m36, .ref m37, .ref m38, .ref m39, .ref m40, .ref m41, .ref m42, .int 0]))] s.heap := hP
  have hin9 : ∀ w ∈ u_ws RX9 TX9 44, w ∈ wsX9_rule := (fun _ h9 => List.mem_cons_of_mem _ ((List.mem_append_right _ h9)))
  have hl := lv_entry ([.ref h0]) (n := 1) (Nat.le_of_ble_eq_true rfl)
  rw [lg_entry_eq]
  generalize (lg_sl ([.ref h0]) ++ List.replicate (1 - (lg_sl ([.ref h0])).length) Slot.unset).toArray = ls at hl ⊢
  have hl : lv_has ls 1 [(0, .ref h0)] := hl
  refine lv_aload_n hx hb dX9_rule_0 rfl (lv_at hl 0 rfl) ?_
  refine lv_aload_n hx hb dX9_rule_1 rfl (lv_at hl 0 rfl) ?_
  refine va_get (D := D) (ci := 9) (v := .int 0) (C := RX9) (T := TX9) (N := 44) hx hb hts hin9 hown hK hP 0 rfl rfl 1 (by decide) (hts (.fieldLink RX9 13 "HoneyHouseModel" "taped" "I") (List.mem_of_getElem? (i := 1) rfl)) (fun _ h9 => h9) rfl dX9_rule_2 ?_
  refine va_put (D := D) (ci := 9) (v := .int 0) (ty := .int) (C := RX9) (T := TX9) (N := 44) hx hb hts hin9 tyX9 tyX9_ok nmX9 hown hK hP hD hS 0 rfl rfl 26 (by decide) (hts (.fieldLink RX9 90 "HoneyHouseModel" "size" "I") (List.mem_of_getElem? (i := 2) rfl)) (fun _ h9 => h9) rfl (tyX9_ok 26 (by decide)) rfl rfl (Nat.le_of_ble_eq_true rfl) dX9_rule_5 (fun H locs hP hD hS => ?_)
  have hP : va_P D vwCl [(h0, .inr (9, [.ref m0, .int 0, .int 0, .int 0, .ref m4, .ref m5, .ref m6, .ref m7, .ref m8, .ref m9, .ref m10, .ref m11, .ref m12, .int 0, .int 0, .ref m15, .ref m16, .ref m17, .ref m18, .ref m19, .ref m20, .int 0, .int (-1), .ref m23, .ref m24, .int 0, .int 0, .int 0, .ref m28, .int 0, .int 0, .int 0, .ref m32, .ref m33, .ref m34, .int 0, .ref m36, .ref m37, .ref m38, .ref m39, .ref m40, .ref m41, .ref m42, .int 0]))] H := hP
  have hD : va_D A [(h0, .inr (9, [.ref m0, .int 0, .int 0, .int 0, .ref m4, .ref m5, .ref m6, .ref m7, .ref m8, .ref m9, .ref m10, .ref m11, .ref m12, .int 0, .int 0, .ref m15, .ref m16, .ref m17, .ref m18, .ref m19, .ref m20, .int 0, .int (-1), .ref m23, .ref m24, .int 0, .int 0, .int 0, .ref m28, .int 0, .int 0, .int 0, .ref m32, .ref m33, .ref m34, .int 0, .ref m36, .ref m37, .ref m38, .ref m39, .ref m40, .ref m41, .ref m42, .int 0]))] := hD
  refine lv_aload_n hx hb dX9_rule_8 rfl (lv_at hl 0 rfl) ?_
  refine lv_iconst (v := 0) hx hb dX9_rule_9 (by decide) ?_
  refine va_put (D := D) (ci := 9) (v := .int 0) (ty := .int) (C := RX9) (T := TX9) (N := 44) hx hb hts hin9 tyX9 tyX9_ok nmX9 hown hK hP hD hS 0 rfl rfl 1 (by decide) (hts (.fieldLink RX9 13 "HoneyHouseModel" "taped" "I") (List.mem_of_getElem? (i := 1) rfl)) (fun _ h9 => h9) rfl (tyX9_ok 1 (by decide)) rfl rfl (Nat.le_of_ble_eq_true rfl) dX9_rule_10 (fun H locs hP hD hS => ?_)
  have hP : va_P D vwCl [(h0, .inr (9, [.ref m0, .int 0, .int 0, .int 0, .ref m4, .ref m5, .ref m6, .ref m7, .ref m8, .ref m9, .ref m10, .ref m11, .ref m12, .int 0, .int 0, .ref m15, .ref m16, .ref m17, .ref m18, .ref m19, .ref m20, .int 0, .int (-1), .ref m23, .ref m24, .int 0, .int 0, .int 0, .ref m28, .int 0, .int 0, .int 0, .ref m32, .ref m33, .ref m34, .int 0, .ref m36, .ref m37, .ref m38, .ref m39, .ref m40, .ref m41, .ref m42, .int 0]))] H := hP
  have hD : va_D A [(h0, .inr (9, [.ref m0, .int 0, .int 0, .int 0, .ref m4, .ref m5, .ref m6, .ref m7, .ref m8, .ref m9, .ref m10, .ref m11, .ref m12, .int 0, .int 0, .ref m15, .ref m16, .ref m17, .ref m18, .ref m19, .ref m20, .int 0, .int (-1), .ref m23, .ref m24, .int 0, .int 0, .int 0, .ref m28, .int 0, .int 0, .int 0, .ref m32, .ref m33, .ref m34, .int 0, .ref m36, .ref m37, .ref m38, .ref m39, .ref m40, .ref m41, .ref m42, .int 0]))] := hD
  refine lv_aload_n hx hb dX9_rule_13 rfl (lv_at hl 0 rfl) ?_
  refine lv_iconst (v := 0) hx hb dX9_rule_14 (by decide) ?_
  refine va_put (D := D) (ci := 9) (v := .int 0) (ty := .int) (C := RX9) (T := TX9) (N := 44) hx hb hts hin9 tyX9 tyX9_ok nmX9 hown hK hP hD hS 0 rfl rfl 21 (by decide) (hts (.fieldLink RX9 74 "HoneyHouseModel" "faultKind" "I") (List.mem_of_getElem? (i := 3) rfl)) (fun _ h9 => h9) rfl (tyX9_ok 21 (by decide)) rfl rfl (Nat.le_of_ble_eq_true rfl) dX9_rule_15 (fun H locs hP hD hS => ?_)
  have hP : va_P D vwCl [(h0, .inr (9, [.ref m0, .int 0, .int 0, .int 0, .ref m4, .ref m5, .ref m6, .ref m7, .ref m8, .ref m9, .ref m10, .ref m11, .ref m12, .int 0, .int 0, .ref m15, .ref m16, .ref m17, .ref m18, .ref m19, .ref m20, .int 0, .int (-1), .ref m23, .ref m24, .int 0, .int 0, .int 0, .ref m28, .int 0, .int 0, .int 0, .ref m32, .ref m33, .ref m34, .int 0, .ref m36, .ref m37, .ref m38, .ref m39, .ref m40, .ref m41, .ref m42, .int 0]))] H := hP
  have hD : va_D A [(h0, .inr (9, [.ref m0, .int 0, .int 0, .int 0, .ref m4, .ref m5, .ref m6, .ref m7, .ref m8, .ref m9, .ref m10, .ref m11, .ref m12, .int 0, .int 0, .ref m15, .ref m16, .ref m17, .ref m18, .ref m19, .ref m20, .int 0, .int (-1), .ref m23, .ref m24, .int 0, .int 0, .int 0, .ref m28, .int 0, .int 0, .int 0, .ref m32, .ref m33, .ref m34, .int 0, .ref m36, .ref m37, .ref m38, .ref m39, .ref m40, .ref m41, .ref m42, .int 0]))] := hD
  refine lv_aload_n hx hb dX9_rule_18 rfl (lv_at hl 0 rfl) ?_
  refine lv_iconst (v := (-1)) hx hb dX9_rule_19 (by decide) ?_
  refine va_put (D := D) (ci := 9) (v := .int (-1)) (ty := .int) (C := RX9) (T := TX9) (N := 44) hx hb hts hin9 tyX9 tyX9_ok nmX9 hown hK hP hD hS 0 rfl rfl 22 (by decide) (hts (.fieldLink RX9 77 "HoneyHouseModel" "faultPlace" "I") (List.mem_of_getElem? (i := 4) rfl)) (fun _ h9 => h9) rfl (tyX9_ok 22 (by decide)) rfl rfl (Nat.le_of_ble_eq_true rfl) dX9_rule_20 (fun H locs hP hD hS => ?_)
  have hP : va_P D vwCl [(h0, .inr (9, [.ref m0, .int 0, .int 0, .int 0, .ref m4, .ref m5, .ref m6, .ref m7, .ref m8, .ref m9, .ref m10, .ref m11, .ref m12, .int 0, .int 0, .ref m15, .ref m16, .ref m17, .ref m18, .ref m19, .ref m20, .int 0, .int (-1), .ref m23, .ref m24, .int 0, .int 0, .int 0, .ref m28, .int 0, .int 0, .int 0, .ref m32, .ref m33, .ref m34, .int 0, .ref m36, .ref m37, .ref m38, .ref m39, .ref m40, .ref m41, .ref m42, .int 0]))] H := hP
  have hD : va_D A [(h0, .inr (9, [.ref m0, .int 0, .int 0, .int 0, .ref m4, .ref m5, .ref m6, .ref m7, .ref m8, .ref m9, .ref m10, .ref m11, .ref m12, .int 0, .int 0, .ref m15, .ref m16, .ref m17, .ref m18, .ref m19, .ref m20, .int 0, .int (-1), .ref m23, .ref m24, .int 0, .int 0, .int 0, .ref m28, .int 0, .int 0, .int 0, .ref m32, .ref m33, .ref m34, .int 0, .ref m36, .ref m37, .ref m38, .ref m39, .ref m40, .ref m41, .ref m42, .int 0]))] := hD
  refine lv_aload_n hx hb dX9_rule_23 rfl (lv_at hl 0 rfl) ?_
  refine va_get (D := D) (ci := 9) (v := .int 0) (C := RX9) (T := TX9) (N := 44) hx hb hts hin9 hown hK hP 0 rfl rfl 14 (by decide) (hts (.fieldLink RX9 53 "HoneyHouseModel" "rules" "I") (List.mem_of_getElem? (i := 5) rfl)) (fun _ h9 => h9) rfl dX9_rule_24 ?_
  refine lv_bipush (v := 16) hx hb dX9_rule_27 (by decide) ?_
  refine lv_icmp_ne (tgt := 37) hx hb dX9_rule_29 (by decide) (fun c_1 => ?_) (fun c_1 => absurd c_1 (by decide))
  refine lv_aload_n hx hb dX9_rule_37 rfl (lv_at hl 0 rfl) ?_
  have hPc := hP.sub (ws' := [(h0, .inr (9, [.ref m0, .int 0, .int 0, .int 0, .ref m4, .ref m5, .ref m6, .ref m7, .ref m8, .ref m9, .ref m10, .ref m11, .ref m12, .int 0, .int 0, .ref m15, .ref m16, .ref m17, .ref m18, .ref m19, .ref m20, .int 0, .int (-1), .ref m23, .ref m24, .int 0, .int 0, .int 0, .ref m28, .int 0, .int 0, .int 0, .ref m32, .ref m33, .ref m34, .int 0, .ref m36, .ref m37, .ref m38, .ref m39, .ref m40, .ref m41, .ref m42, .int 0]))]) [0] rfl
  have hDc := hD.sub (ws' := [(h0, .inr (9, [.ref m0, .int 0, .int 0, .int 0, .ref m4, .ref m5, .ref m6, .ref m7, .ref m8, .ref m9, .ref m10, .ref m11, .ref m12, .int 0, .int 0, .ref m15, .ref m16, .ref m17, .ref m18, .ref m19, .ref m20, .int 0, .int (-1), .ref m23, .ref m24, .int 0, .int 0, .int 0, .ref m28, .int 0, .int 0, .int 0, .ref m32, .ref m33, .ref m34, .int 0, .ref m36, .ref m37, .ref m38, .ref m39, .ref m40, .ref m41, .ref m42, .int 0]))]) [0] (by decide) rfl
  have hKc := hK.sub (tys' := []) [] rfl
  have hFc := va_free (wc := [(h0, .inr (9, [.ref m0, .int 0, .int 0, .int 0, .ref m4, .ref m5, .ref m6, .ref m7, .ref m8, .ref m9, .ref m10, .ref m11, .ref m12, .int 0, .int 0, .ref m15, .ref m16, .ref m17, .ref m18, .ref m19, .ref m20, .int 0, .int (-1), .ref m23, .ref m24, .int 0, .int 0, .int 0, .ref m28, .int 0, .int 0, .int 0, .ref m32, .ref m33, .ref m34, .int 0, .ref m36, .ref m37, .ref m38, .ref m39, .ref m40, .ref m41, .ref m42, .int 0]))]) hD hS hA [0] rfl
  refine va_callv (va_runV (As := []) (rest := []) ⟨hx, hb, hml, hown, hts⟩ (q_X9_reads l D h0 m0 m4 m5 m6 m7 m8 m9 m10 m11 m12 m15 m16 m17 m18 m19 m20 m23 m24 m28 m32 m33 m34 m36 m37 m38 m39 m40 m41 m42 H.size) (cwV 0 hts gX9_rule_X9_reads rfl rfl rfl (by decide +kernel) ⟨Nat.le_of_ble_eq_true rfl, Nat.le_of_ble_eq_true rfl⟩) ⟨fun a U g mk q => by obtain ⟨q0, q1, qP, qK, qD⟩ := q; exact ⟨q0, q1, qP, va_K.moved (u := U) (U := U.calling g mk a) (Vm.Alike.refl U.vm) qK, qD⟩, va_recv hKc hPc (ci := 9) (q0 := 0) rfl rfl, fun U hU hW => ⟨rfl, by rw [hU], by rw [hU]; exact hPc, va_K.moved hW.alike hKc, hDc.weaken (fun _ _ _ _ => trivial)⟩⟩ rfl rfl hl.1 rfl (lv_room (Nat.le_of_ble_eq_true rfl)) dX9_rule_38 ⟨Nat.le_of_ble_eq_true rfl, Nat.le_of_ble_eq_true rfl⟩) hS (fun q _ h => hFc q h) hFc (fun u t H1 locs ht hvm w_3 hB hz1 hk1 hS => ?_)
  obtain ⟨hP1, hK1, hD1⟩ := hB
  rw [ht] at hP1
  have hK1 := va_K.moved hvm.symm hK1
  obtain ⟨hP, hD⟩ := va_join (wr := []) (w1 := [(h0, .inr (9, [.ref m0, .int 0, .int 0, .int 0, .ref m4, .ref m5, .ref m6, .ref m7, .ref m8, .ref m9, .ref m10, .ref m11, .ref m12, .int 0, .int 0, .ref m15, .ref m16, .ref m17, .ref m18, .ref m19, .ref m20, .int 1, .int 0, .ref m23, .ref m24, .int 0, .int 0, .int 0, .ref m28, .int 0, .int 0, .int 0, .ref m32, .ref m33, .ref m34, .int 0, .ref m36, .ref m37, .ref m38, .ref m39, .ref m40, .ref m41, .ref m42, .int 0]))]) hP hD [0] [] rfl rfl (by decide) (by decide) hk1 hFc hP1 hD1
  have hK := hK.app hK1
  generalize H1 = H at hP hS ⊢
  have hP : va_P D vwCl [(h0, .inr (9, [.ref m0, .int 0, .int 0, .int 0, .ref m4, .ref m5, .ref m6, .ref m7, .ref m8, .ref m9, .ref m10, .ref m11, .ref m12, .int 0, .int 0, .ref m15, .ref m16, .ref m17, .ref m18, .ref m19, .ref m20, .int 1, .int 0, .ref m23, .ref m24, .int 0, .int 0, .int 0, .ref m28, .int 0, .int 0, .int 0, .ref m32, .ref m33, .ref m34, .int 0, .ref m36, .ref m37, .ref m38, .ref m39, .ref m40, .ref m41, .ref m42, .int 0]))] H := hP
  have hD : va_D A [(h0, .inr (9, [.ref m0, .int 0, .int 0, .int 0, .ref m4, .ref m5, .ref m6, .ref m7, .ref m8, .ref m9, .ref m10, .ref m11, .ref m12, .int 0, .int 0, .ref m15, .ref m16, .ref m17, .ref m18, .ref m19, .ref m20, .int 1, .int 0, .ref m23, .ref m24, .int 0, .int 0, .int 0, .ref m28, .int 0, .int 0, .int 0, .ref m32, .ref m33, .ref m34, .int 0, .ref m36, .ref m37, .ref m38, .ref m39, .ref m40, .ref m41, .ref m42, .int 0]))] := hD
  have hK : va_K D vwCl [] s := hK
  refine lv_aload_n hx hb dX9_rule_41 rfl (lv_at hl 0 rfl) ?_
  refine va_get (D := D) (ci := 9) (v := .int 1) (C := RX9) (T := TX9) (N := 44) hx hb hts hin9 hown hK hP 0 rfl rfl 21 (by decide) (hts (.fieldLink RX9 74 "HoneyHouseModel" "faultKind" "I") (List.mem_of_getElem? (i := 3) rfl)) (fun _ h9 => h9) rfl dX9_rule_42 ?_
  refine lv_if_le (tgt := 50) hx hb dX9_rule_45 (by decide) (fun c_4 => absurd c_4 (by decide)) (fun c_4 => ?_)
  refine lv_iconst (v := (-1)) hx hb dX9_rule_48 (by decide) ?_
  have hP9 := hP.sub (ws' := []) [] rfl
  have hD9 := hD.sub (ws' := []) [] (by decide) rfl
  have hK9 := hK.sub (tys' := []) [] rfl
  refine W.widen (k := 0) (n := 0) (by omega) (by omega) ?_
  exact W.iret (v := (-1)) hx hb hr (fun t ht hW => ⟨⟨(-1), (), rfl, rfl, by rw [ht]; exact hP9, va_K.moved hW.alike hK9, hD9⟩, hS.F ht⟩) hS.2.2 dX9_rule_49
