theorem dX8_tank_0 : decode cX8_tank 0 = .ok (.aload_n 0, 1) := by decide +kernel
theorem dX8_tank_1 : decode cX8_tank 1 = .ok (.iload_n 1, 1) := by decide +kernel
theorem dX8_tank_2 : decode cX8_tank 2 = .ok (.invokevirtual 139, 3) := by decide +kernel
theorem dX8_tank_5 : decode cX8_tank 5 = .ok (.astore 4, 2) := by decide +kernel
theorem dX8_tank_7 : decode cX8_tank 7 = .ok (.aload 4, 2) := by decide +kernel
theorem dX8_tank_9 : decode cX8_tank 9 = .ok (.ifnull 24, 3) := by decide +kernel
theorem dX8_tank_12 : decode cX8_tank 12 = .ok (.iload_n 2, 1) := by decide +kernel
theorem dX8_tank_13 : decode cX8_tank 13 = .ok (.iconst 0, 1) := by decide +kernel
theorem dX8_tank_14 : decode cX8_tank 14 = .ok (.ldc 143, 2) := by decide +kernel
theorem dX8_tank_16 : decode cX8_tank 16 = .ok (.invokestatic 85, 3) := by decide +kernel
theorem dX8_tank_19 : decode cX8_tank 19 = .ok (.ifCond .eq 14, 3) := by decide +kernel
theorem dX8_tank_22 : decode cX8_tank 22 = .ok (.iload_n 3, 1) := by decide +kernel
theorem dX8_tank_23 : decode cX8_tank 23 = .ok (.iconst 0, 1) := by decide +kernel
theorem dX8_tank_24 : decode cX8_tank 24 = .ok (.sipush 10000, 3) := by decide +kernel
theorem dX8_tank_27 : decode cX8_tank 27 = .ok (.invokestatic 85, 3) := by decide +kernel
theorem dX8_tank_30 : decode cX8_tank 30 = .ok (.ifCond .ne 5, 3) := by decide +kernel
theorem dX8_tank_33 : decode cX8_tank 33 = .ok (.iconst 0, 1) := by decide +kernel
theorem dX8_tank_34 : decode cX8_tank 34 = .ok (.ireturn, 1) := by decide +kernel
theorem dX8_tank_35 : decode cX8_tank 35 = .ok (.aload 4, 2) := by decide +kernel
theorem dX8_tank_37 : decode cX8_tank 37 = .ok (.getfield 144, 3) := by decide +kernel
theorem dX8_tank_40 : decode cX8_tank 40 = .ok (.iload_n 2, 1) := by decide +kernel
theorem dX8_tank_41 : decode cX8_tank 41 = .ok (.if_icmp .le 5, 3) := by decide +kernel
theorem dX8_tank_44 : decode cX8_tank 44 = .ok (.iconst 0, 1) := by decide +kernel
theorem dX8_tank_45 : decode cX8_tank 45 = .ok (.ireturn, 1) := by decide +kernel
theorem dX8_tank_46 : decode cX8_tank 46 = .ok (.aload 4, 2) := by decide +kernel
theorem dX8_tank_48 : decode cX8_tank 48 = .ok (.iload_n 2, 1) := by decide +kernel
theorem dX8_tank_49 : decode cX8_tank 49 = .ok (.putfield 147, 3) := by decide +kernel
theorem dX8_tank_52 : decode cX8_tank 52 = .ok (.aload 4, 2) := by decide +kernel
theorem dX8_tank_54 : decode cX8_tank 54 = .ok (.iload_n 3, 1) := by decide +kernel
theorem dX8_tank_55 : decode cX8_tank 55 = .ok (.putfield 150, 3) := by decide +kernel
theorem dX8_tank_58 : decode cX8_tank 58 = .ok (.iconst 1, 1) := by decide +kernel
theorem dX8_tank_59 : decode cX8_tank 59 = .ok (.ireturn, 1) := by decide +kernel
theorem dX8_warm_0 : decode cX8_warm 0 = .ok (.aload_n 0, 1) := by decide +kernel
theorem dX8_warm_1 : decode cX8_warm 1 = .ok (.iload_n 1, 1) := by decide +kernel
theorem dX8_warm_2 : decode cX8_warm 2 = .ok (.invokevirtual 139, 3) := by decide +kernel
theorem dX8_warm_5 : decode cX8_warm 5 = .ok (.astore_n 3, 1) := by decide +kernel
theorem dX8_warm_6 : decode cX8_warm 6 = .ok (.aload_n 3, 1) := by decide +kernel
theorem dX8_warm_7 : decode cX8_warm 7 = .ok (.ifnull 21, 3) := by decide +kernel
theorem dX8_warm_10 : decode cX8_warm 10 = .ok (.aload_n 3, 1) := by decide +kernel
theorem dX8_warm_11 : decode cX8_warm 11 = .ok (.getfield 144, 3) := by decide +kernel
theorem dX8_warm_14 : decode cX8_warm 14 = .ok (.ifCond .eq 14, 3) := by decide +kernel
theorem dX8_warm_17 : decode cX8_warm 17 = .ok (.iload_n 2, 1) := by decide +kernel
theorem dX8_warm_18 : decode cX8_warm 18 = .ok (.iconst 1, 1) := by decide +kernel
theorem dX8_warm_19 : decode cX8_warm 19 = .ok (.sipush 1000, 3) := by decide +kernel
theorem dX8_warm_22 : decode cX8_warm 22 = .ok (.invokestatic 85, 3) := by decide +kernel
theorem dX8_warm_25 : decode cX8_warm 25 = .ok (.ifCond .ne 5, 3) := by decide +kernel
theorem dX8_warm_28 : decode cX8_warm 28 = .ok (.iconst (-1), 1) := by decide +kernel
theorem dX8_warm_29 : decode cX8_warm 29 = .ok (.ireturn, 1) := by decide +kernel
theorem dX8_warm_30 : decode cX8_warm 30 = .ok (.aload_n 3, 1) := by decide +kernel
theorem dX8_warm_31 : decode cX8_warm 31 = .ok (.dup, 1) := by decide +kernel
theorem dX8_warm_32 : decode cX8_warm 32 = .ok (.getfield 160, 3) := by decide +kernel
theorem dX8_warm_35 : decode cX8_warm 35 = .ok (.iload_n 2, 1) := by decide +kernel
theorem dX8_warm_36 : decode cX8_warm 36 = .ok (.iadd, 1) := by decide +kernel
theorem dX8_warm_37 : decode cX8_warm 37 = .ok (.putfield 160, 3) := by decide +kernel
theorem dX8_warm_40 : decode cX8_warm 40 = .ok (.aload_n 3, 1) := by decide +kernel
theorem dX8_warm_41 : decode cX8_warm 41 = .ok (.getfield 160, 3) := by decide +kernel
theorem dX8_warm_44 : decode cX8_warm 44 = .ok (.ireturn, 1) := by decide +kernel
theorem dX8_pour_0 : decode cX8_pour 0 = .ok (.aload_n 0, 1) := by decide +kernel
theorem dX8_pour_1 : decode cX8_pour 1 = .ok (.iload_n 1, 1) := by decide +kernel
theorem dX8_pour_2 : decode cX8_pour 2 = .ok (.invokevirtual 96, 3) := by decide +kernel
theorem dX8_pour_5 : decode cX8_pour 5 = .ok (.astore 4, 2) := by decide +kernel
theorem dX8_pour_7 : decode cX8_pour 7 = .ok (.aload_n 0, 1) := by decide +kernel
theorem dX8_pour_8 : decode cX8_pour 8 = .ok (.iload_n 2, 1) := by decide +kernel
theorem dX8_pour_9 : decode cX8_pour 9 = .ok (.invokevirtual 139, 3) := by decide +kernel
theorem dX8_pour_12 : decode cX8_pour 12 = .ok (.astore 5, 2) := by decide +kernel
theorem dX8_pour_14 : decode cX8_pour 14 = .ok (.aload 4, 2) := by decide +kernel
theorem dX8_pour_16 : decode cX8_pour 16 = .ok (.ifnull 8, 3) := by decide +kernel
theorem dX8_pour_19 : decode cX8_pour 19 = .ok (.aload 5, 2) := by decide +kernel
theorem dX8_pour_21 : decode cX8_pour 21 = .ok (.ifnonnull 5, 3) := by decide +kernel
theorem dX8_pour_24 : decode cX8_pour 24 = .ok (.iconst (-1), 1) := by decide +kernel
theorem dX8_pour_25 : decode cX8_pour 25 = .ok (.ireturn, 1) := by decide +kernel
theorem dX8_pour_26 : decode cX8_pour 26 = .ok (.iload_n 3, 1) := by decide +kernel
theorem dX8_pour_27 : decode cX8_pour 27 = .ok (.iconst 1, 1) := by decide +kernel
theorem dX8_pour_28 : decode cX8_pour 28 = .ok (.aload 4, 2) := by decide +kernel
theorem dX8_pour_30 : decode cX8_pour 30 = .ok (.getfield 136, 3) := by decide +kernel
theorem dX8_pour_33 : decode cX8_pour 33 = .ok (.invokestatic 85, 3) := by decide +kernel
theorem dX8_pour_36 : decode cX8_pour 36 = .ok (.ifCond .eq 12, 3) := by decide +kernel
theorem dX8_pour_39 : decode cX8_pour 39 = .ok (.aload 5, 2) := by decide +kernel
theorem dX8_pour_41 : decode cX8_pour 41 = .ok (.iload_n 3, 1) := by decide +kernel
theorem dX8_pour_42 : decode cX8_pour 42 = .ok (.invokevirtual 153, 3) := by decide +kernel
theorem dX8_pour_45 : decode cX8_pour 45 = .ok (.ifCond .ne 6, 3) := by decide +kernel
theorem dX8_pour_48 : decode cX8_pour 48 = .ok (.bipush (-2), 2) := by decide +kernel
theorem dX8_pour_50 : decode cX8_pour 50 = .ok (.ireturn, 1) := by decide +kernel
theorem dX8_pour_51 : decode cX8_pour 51 = .ok (.aload 4, 2) := by decide +kernel
theorem dX8_pour_53 : decode cX8_pour 53 = .ok (.dup, 1) := by decide +kernel
theorem dX8_pour_54 : decode cX8_pour 54 = .ok (.getfield 136, 3) := by decide +kernel
theorem dX8_pour_57 : decode cX8_pour 57 = .ok (.iload_n 3, 1) := by decide +kernel
theorem dX8_pour_58 : decode cX8_pour 58 = .ok (.isub, 1) := by decide +kernel
theorem dX8_pour_59 : decode cX8_pour 59 = .ok (.putfield 136, 3) := by decide +kernel
theorem dX8_pour_62 : decode cX8_pour 62 = .ok (.aload 5, 2) := by decide +kernel
theorem dX8_pour_64 : decode cX8_pour 64 = .ok (.iload_n 1, 1) := by decide +kernel
theorem dX8_pour_65 : decode cX8_pour 65 = .ok (.iload_n 3, 1) := by decide +kernel
theorem dX8_pour_66 : decode cX8_pour 66 = .ok (.invokevirtual 157, 3) := by decide +kernel
theorem dX8_pour_69 : decode cX8_pour 69 = .ok (.aload 4, 2) := by decide +kernel
theorem dX8_pour_71 : decode cX8_pour 71 = .ok (.getfield 136, 3) := by decide +kernel
theorem dX8_pour_74 : decode cX8_pour 74 = .ok (.ireturn, 1) := by decide +kernel
theorem dX8_spill_0 : decode cX8_spill 0 = .ok (.aload_n 0, 1) := by decide +kernel
theorem dX8_spill_1 : decode cX8_spill 1 = .ok (.iload_n 1, 1) := by decide +kernel
theorem dX8_spill_2 : decode cX8_spill 2 = .ok (.invokevirtual 139, 3) := by decide +kernel
theorem dX8_spill_5 : decode cX8_spill 5 = .ok (.astore_n 3, 1) := by decide +kernel
theorem dX8_spill_6 : decode cX8_spill 6 = .ok (.aload_n 3, 1) := by decide +kernel
theorem dX8_spill_7 : decode cX8_spill 7 = .ok (.ifnonnull 5, 3) := by decide +kernel
theorem dX8_spill_10 : decode cX8_spill 10 = .ok (.iconst (-1), 1) := by decide +kernel
theorem dX8_spill_11 : decode cX8_spill 11 = .ok (.ireturn, 1) := by decide +kernel
theorem dX8_spill_12 : decode cX8_spill 12 = .ok (.iload_n 2, 1) := by decide +kernel
theorem dX8_spill_13 : decode cX8_spill 13 = .ok (.iconst 1, 1) := by decide +kernel
theorem dX8_spill_14 : decode cX8_spill 14 = .ok (.aload_n 3, 1) := by decide +kernel
theorem dX8_spill_15 : decode cX8_spill 15 = .ok (.getfield 144, 3) := by decide +kernel
theorem dX8_spill_18 : decode cX8_spill 18 = .ok (.invokestatic 85, 3) := by decide +kernel
theorem dX8_spill_21 : decode cX8_spill 21 = .ok (.ifCond .ne 6, 3) := by decide +kernel
theorem dX8_spill_24 : decode cX8_spill 24 = .ok (.bipush (-2), 2) := by decide +kernel
theorem dX8_spill_26 : decode cX8_spill 26 = .ok (.ireturn, 1) := by decide +kernel
theorem dX8_spill_27 : decode cX8_spill 27 = .ok (.aload_n 0, 1) := by decide +kernel
theorem dX8_spill_28 : decode cX8_spill 28 = .ok (.getfield 47, 3) := by decide +kernel
theorem dX8_spill_31 : decode cX8_spill 31 = .ok (.aload_n 3, 1) := by decide +kernel
theorem dX8_spill_32 : decode cX8_spill 32 = .ok (.iload_n 2, 1) := by decide +kernel
theorem dX8_spill_33 : decode cX8_spill 33 = .ok (.invokevirtual 163, 3) := by decide +kernel
theorem dX8_spill_36 : decode cX8_spill 36 = .ok (.aload_n 3, 1) := by decide +kernel
theorem dX8_spill_37 : decode cX8_spill 37 = .ok (.getfield 144, 3) := by decide +kernel
theorem dX8_spill_40 : decode cX8_spill 40 = .ok (.ireturn, 1) := by decide +kernel
theorem dX8_move_0 : decode cX8_move 0 = .ok (.aload_n 0, 1) := by decide +kernel
theorem dX8_move_1 : decode cX8_move 1 = .ok (.iload_n 1, 1) := by decide +kernel
theorem dX8_move_2 : decode cX8_move 2 = .ok (.invokevirtual 139, 3) := by decide +kernel
theorem dX8_move_5 : decode cX8_move 5 = .ok (.astore 4, 2) := by decide +kernel
theorem dX8_move_7 : decode cX8_move 7 = .ok (.aload_n 0, 1) := by decide +kernel
theorem dX8_move_8 : decode cX8_move 8 = .ok (.iload_n 2, 1) := by decide +kernel
theorem dX8_move_9 : decode cX8_move 9 = .ok (.invokevirtual 139, 3) := by decide +kernel
theorem dX8_move_12 : decode cX8_move 12 = .ok (.astore 5, 2) := by decide +kernel
theorem dX8_move_14 : decode cX8_move 14 = .ok (.aload 4, 2) := by decide +kernel
theorem dX8_move_16 : decode cX8_move 16 = .ok (.ifnull 13, 3) := by decide +kernel
theorem dX8_move_19 : decode cX8_move 19 = .ok (.aload 5, 2) := by decide +kernel
theorem dX8_move_21 : decode cX8_move 21 = .ok (.ifnull 8, 3) := by decide +kernel
theorem dX8_move_24 : decode cX8_move 24 = .ok (.iload_n 1, 1) := by decide +kernel
theorem dX8_move_25 : decode cX8_move 25 = .ok (.iload_n 2, 1) := by decide +kernel
theorem dX8_move_26 : decode cX8_move 26 = .ok (.if_icmp .ne 5, 3) := by decide +kernel
theorem dX8_move_29 : decode cX8_move 29 = .ok (.iconst (-1), 1) := by decide +kernel
theorem dX8_move_30 : decode cX8_move 30 = .ok (.ireturn, 1) := by decide +kernel
theorem dX8_move_31 : decode cX8_move 31 = .ok (.iload_n 3, 1) := by decide +kernel
theorem dX8_move_32 : decode cX8_move 32 = .ok (.iconst 1, 1) := by decide +kernel
theorem dX8_move_33 : decode cX8_move 33 = .ok (.aload 4, 2) := by decide +kernel
theorem dX8_move_35 : decode cX8_move 35 = .ok (.getfield 144, 3) := by decide +kernel
theorem dX8_move_38 : decode cX8_move 38 = .ok (.invokestatic 85, 3) := by decide +kernel
theorem dX8_move_41 : decode cX8_move 41 = .ok (.ifCond .eq 12, 3) := by decide +kernel
theorem dX8_move_44 : decode cX8_move 44 = .ok (.aload 5, 2) := by decide +kernel
theorem dX8_move_46 : decode cX8_move 46 = .ok (.iload_n 3, 1) := by decide +kernel
theorem dX8_move_47 : decode cX8_move 47 = .ok (.invokevirtual 153, 3) := by decide +kernel
theorem dX8_move_50 : decode cX8_move 50 = .ok (.ifCond .ne 6, 3) := by decide +kernel
theorem dX8_move_53 : decode cX8_move 53 = .ok (.bipush (-2), 2) := by decide +kernel
theorem dX8_move_55 : decode cX8_move 55 = .ok (.ireturn, 1) := by decide +kernel
theorem dX8_move_56 : decode cX8_move 56 = .ok (.aload 4, 2) := by decide +kernel
theorem dX8_move_58 : decode cX8_move 58 = .ok (.getfield 160, 3) := by decide +kernel
theorem dX8_move_61 : decode cX8_move 61 = .ok (.istore 6, 2) := by decide +kernel
theorem dX8_move_63 : decode cX8_move 63 = .ok (.aload_n 0, 1) := by decide +kernel
theorem dX8_move_64 : decode cX8_move 64 = .ok (.getfield 47, 3) := by decide +kernel
theorem dX8_move_67 : decode cX8_move 67 = .ok (.aload 4, 2) := by decide +kernel
theorem dX8_move_69 : decode cX8_move 69 = .ok (.iload_n 3, 1) := by decide +kernel
theorem dX8_move_70 : decode cX8_move 70 = .ok (.invokevirtual 163, 3) := by decide +kernel
theorem dX8_move_73 : decode cX8_move 73 = .ok (.aload_n 0, 1) := by decide +kernel
theorem dX8_move_74 : decode cX8_move 74 = .ok (.getfield 47, 3) := by decide +kernel
theorem dX8_move_77 : decode cX8_move 77 = .ok (.aload 5, 2) := by decide +kernel
theorem dX8_move_79 : decode cX8_move 79 = .ok (.iload 6, 2) := by decide +kernel
theorem dX8_move_81 : decode cX8_move 81 = .ok (.invokevirtual 167, 3) := by decide +kernel
theorem dX8_move_84 : decode cX8_move 84 = .ok (.aload 4, 2) := by decide +kernel
theorem dX8_move_86 : decode cX8_move 86 = .ok (.getfield 144, 3) := by decide +kernel
theorem dX8_move_89 : decode cX8_move 89 = .ok (.ireturn, 1) := by decide +kernel
theorem dX8_of_0 : decode cX8_of 0 = .ok (.aload_n 0, 1) := by decide +kernel
theorem dX8_of_1 : decode cX8_of 1 = .ok (.iload_n 1, 1) := by decide +kernel
theorem dX8_of_2 : decode cX8_of 2 = .ok (.invokevirtual 96, 3) := by decide +kernel
theorem dX8_of_5 : decode cX8_of 5 = .ok (.astore_n 3, 1) := by decide +kernel
theorem dX8_of_6 : decode cX8_of 6 = .ok (.aload_n 3, 1) := by decide +kernel
theorem dX8_of_7 : decode cX8_of 7 = .ok (.ifnonnull 5, 3) := by decide +kernel
theorem dX8_of_10 : decode cX8_of 10 = .ok (.iconst (-1), 1) := by decide +kernel
theorem dX8_of_11 : decode cX8_of 11 = .ok (.ireturn, 1) := by decide +kernel
theorem dX8_of_12 : decode cX8_of 12 = .ok (.iload_n 2, 1) := by decide +kernel
theorem dX8_of_13 : decode cX8_of 13 = .ok (.tableswitch 78 0 6 #[43, 48, 53, 58, 63, 68, 73], 43) := by decide +kernel
theorem dX8_of_56 : decode cX8_of 56 = .ok (.aload_n 3, 1) := by decide +kernel
theorem dX8_of_57 : decode cX8_of 57 = .ok (.getfield 127, 3) := by decide +kernel
theorem dX8_of_60 : decode cX8_of 60 = .ok (.ireturn, 1) := by decide +kernel
theorem dX8_of_61 : decode cX8_of 61 = .ok (.aload_n 3, 1) := by decide +kernel
theorem dX8_of_62 : decode cX8_of 62 = .ok (.getfield 120, 3) := by decide +kernel
theorem dX8_of_65 : decode cX8_of 65 = .ok (.ireturn, 1) := by decide +kernel
theorem dX8_of_66 : decode cX8_of 66 = .ok (.aload_n 3, 1) := by decide +kernel
theorem dX8_of_67 : decode cX8_of 67 = .ok (.getfield 114, 3) := by decide +kernel
theorem dX8_of_70 : decode cX8_of 70 = .ok (.ireturn, 1) := by decide +kernel
theorem dX8_of_71 : decode cX8_of 71 = .ok (.aload_n 3, 1) := by decide +kernel
theorem dX8_of_72 : decode cX8_of 72 = .ok (.getfield 130, 3) := by decide +kernel
theorem dX8_of_75 : decode cX8_of 75 = .ok (.ireturn, 1) := by decide +kernel
theorem dX8_of_76 : decode cX8_of 76 = .ok (.aload_n 3, 1) := by decide +kernel
theorem dX8_of_77 : decode cX8_of 77 = .ok (.getfield 133, 3) := by decide +kernel
theorem dX8_of_80 : decode cX8_of 80 = .ok (.ireturn, 1) := by decide +kernel
theorem dX8_of_81 : decode cX8_of 81 = .ok (.aload_n 3, 1) := by decide +kernel
theorem dX8_of_82 : decode cX8_of 82 = .ok (.getfield 136, 3) := by decide +kernel
theorem dX8_of_85 : decode cX8_of 85 = .ok (.ireturn, 1) := by decide +kernel
theorem dX8_of_86 : decode cX8_of 86 = .ok (.aload_n 3, 1) := by decide +kernel
theorem dX8_of_87 : decode cX8_of 87 = .ok (.getfield 111, 3) := by decide +kernel
theorem dX8_of_90 : decode cX8_of 90 = .ok (.ireturn, 1) := by decide +kernel
theorem dX8_of_91 : decode cX8_of 91 = .ok (.iconst (-1), 1) := by decide +kernel
theorem dX8_of_92 : decode cX8_of 92 = .ok (.ireturn, 1) := by decide +kernel
theorem dX8_holds_0 : decode cX8_holds 0 = .ok (.aload_n 0, 1) := by decide +kernel
theorem dX8_holds_1 : decode cX8_holds 1 = .ok (.iload_n 1, 1) := by decide +kernel
theorem dX8_holds_2 : decode cX8_holds 2 = .ok (.iload_n 2, 1) := by decide +kernel
theorem dX8_holds_3 : decode cX8_holds 3 = .ok (.invokevirtual 173, 3) := by decide +kernel
theorem dX8_holds_6 : decode cX8_holds 6 = .ok (.astore 4, 2) := by decide +kernel
theorem dX8_holds_8 : decode cX8_holds 8 = .ok (.aload 4, 2) := by decide +kernel
theorem dX8_holds_10 : decode cX8_holds 10 = .ok (.ifnonnull 5, 3) := by decide +kernel
theorem dX8_holds_13 : decode cX8_holds 13 = .ok (.iconst (-1), 1) := by decide +kernel
theorem dX8_holds_14 : decode cX8_holds 14 = .ok (.ireturn, 1) := by decide +kernel
theorem dX8_holds_15 : decode cX8_holds 15 = .ok (.iload_n 3, 1) := by decide +kernel
theorem dX8_holds_16 : decode cX8_holds 16 = .ok (.tableswitch 66 0 4 #[36, 42, 48, 54, 60], 36) := by decide +kernel
theorem dX8_holds_52 : decode cX8_holds 52 = .ok (.aload 4, 2) := by decide +kernel
theorem dX8_holds_54 : decode cX8_holds 54 = .ok (.getfield 144, 3) := by decide +kernel
theorem dX8_holds_57 : decode cX8_holds 57 = .ok (.ireturn, 1) := by decide +kernel
theorem dX8_holds_58 : decode cX8_holds 58 = .ok (.aload 4, 2) := by decide +kernel
theorem dX8_holds_60 : decode cX8_holds 60 = .ok (.invokevirtual 177, 3) := by decide +kernel
theorem dX8_holds_63 : decode cX8_holds 63 = .ok (.ireturn, 1) := by decide +kernel
theorem dX8_holds_64 : decode cX8_holds 64 = .ok (.aload 4, 2) := by decide +kernel
theorem dX8_holds_66 : decode cX8_holds 66 = .ok (.getfield 160, 3) := by decide +kernel
theorem dX8_holds_69 : decode cX8_holds 69 = .ok (.ireturn, 1) := by decide +kernel
theorem dX8_holds_70 : decode cX8_holds 70 = .ok (.aload 4, 2) := by decide +kernel
theorem dX8_holds_72 : decode cX8_holds 72 = .ok (.getfield 147, 3) := by decide +kernel
theorem dX8_holds_75 : decode cX8_holds 75 = .ok (.ireturn, 1) := by decide +kernel
theorem dX8_holds_76 : decode cX8_holds 76 = .ok (.aload 4, 2) := by decide +kernel
theorem dX8_holds_78 : decode cX8_holds 78 = .ok (.getfield 150, 3) := by decide +kernel
theorem dX8_holds_81 : decode cX8_holds 81 = .ok (.ireturn, 1) := by decide +kernel
theorem dX8_holds_82 : decode cX8_holds 82 = .ok (.iconst (-1), 1) := by decide +kernel
theorem dX8_holds_83 : decode cX8_holds 83 = .ok (.ireturn, 1) := by decide +kernel
theorem dX8_part_0 : decode cX8_part 0 = .ok (.aload_n 0, 1) := by decide +kernel
theorem dX8_part_1 : decode cX8_part 1 = .ok (.iload_n 1, 1) := by decide +kernel
theorem dX8_part_2 : decode cX8_part 2 = .ok (.iload_n 2, 1) := by decide +kernel
theorem dX8_part_3 : decode cX8_part 3 = .ok (.invokevirtual 173, 3) := by decide +kernel
theorem dX8_part_6 : decode cX8_part 6 = .ok (.astore 4, 2) := by decide +kernel
theorem dX8_part_8 : decode cX8_part 8 = .ok (.aload 4, 2) := by decide +kernel
theorem dX8_part_10 : decode cX8_part 10 = .ok (.ifnull 11, 3) := by decide +kernel
theorem dX8_part_13 : decode cX8_part 13 = .ok (.aload_n 0, 1) := by decide +kernel
theorem dX8_part_14 : decode cX8_part 14 = .ok (.iload_n 3, 1) := by decide +kernel
theorem dX8_part_15 : decode cX8_part 15 = .ok (.invokevirtual 96, 3) := by decide +kernel
theorem dX8_part_18 : decode cX8_part 18 = .ok (.ifnonnull 5, 3) := by decide +kernel
theorem dX8_part_21 : decode cX8_part 21 = .ok (.iconst (-1), 1) := by decide +kernel
theorem dX8_part_22 : decode cX8_part 22 = .ok (.ireturn, 1) := by decide +kernel
theorem dX8_part_23 : decode cX8_part 23 = .ok (.aload 4, 2) := by decide +kernel
theorem dX8_part_25 : decode cX8_part 25 = .ok (.iload_n 3, 1) := by decide +kernel
theorem dX8_part_26 : decode cX8_part 26 = .ok (.invokevirtual 181, 3) := by decide +kernel
theorem dX8_part_29 : decode cX8_part 29 = .ok (.ireturn, 1) := by decide +kernel
theorem dX8_found_0 : decode cX8_found 0 = .ok (.iload_n 1, 1) := by decide +kernel
theorem dX8_found_1 : decode cX8_found 1 = .ok (.iconst 0, 1) := by decide +kernel
theorem dX8_found_2 : decode cX8_found 2 = .ok (.aload_n 0, 1) := by decide +kernel
theorem dX8_found_3 : decode cX8_found 3 = .ok (.getfield 272, 3) := by decide +kernel
theorem dX8_found_6 : decode cX8_found 6 = .ok (.iconst 1, 1) := by decide +kernel
theorem dX8_found_7 : decode cX8_found 7 = .ok (.isub, 1) := by decide +kernel
theorem dX8_found_8 : decode cX8_found 8 = .ok (.invokestatic 85, 3) := by decide +kernel
theorem dX8_found_11 : decode cX8_found 11 = .ok (.ifCond .eq 12, 3) := by decide +kernel
theorem dX8_found_14 : decode cX8_found 14 = .ok (.aload_n 0, 1) := by decide +kernel
theorem dX8_found_15 : decode cX8_found 15 = .ok (.getfield 62, 3) := by decide +kernel
theorem dX8_found_18 : decode cX8_found 18 = .ok (.iload_n 1, 1) := by decide +kernel
theorem dX8_found_19 : decode cX8_found 19 = .ok (.iaload, 1) := by decide +kernel
theorem dX8_found_20 : decode cX8_found 20 = .ok (.goto 4, 3) := by decide +kernel
theorem dX8_found_23 : decode cX8_found 23 = .ok (.iconst (-1), 1) := by decide +kernel
theorem dX8_found_24 : decode cX8_found 24 = .ok (.ireturn, 1) := by decide +kernel
set_option maxRecDepth 20000 in
theorem ggX8_tank_X8_tankAt : GoodIn wsX8_tank wsX8_tankAt := goodIn_r _ [9, 10, 11, 12, 8, 13, 19, 20, 21, 22, 23, 24, 25, 26, 27, 28, 29, 30, 31, 32, 33] rfl (by decide +kernel)
set_option maxRecDepth 20000 in
theorem gX8_tank_X8_tankAt : GoodIn wsX8_tank (wsV RX8 139 RX8 yX8_tankAt wsX8_tankAt) := goodIn_app (goodIn_of _ (by decide +kernel)) ggX8_tank_X8_tankAt
set_option maxRecDepth 20000 in
theorem ggX8_tank_X8_isIn : GoodIn wsX8_tank wsX8_isIn := goodIn_r _ [13] rfl (by decide +kernel)
set_option maxRecDepth 20000 in
theorem gX8_tank_X8_isIn : GoodIn wsX8_tank (va_wsS RX8 85 yX8_isIn wsX8_isIn) := goodIn_app (goodIn_of _ (by decide +kernel)) ggX8_tank_X8_isIn
set_option maxRecDepth 20000 in
theorem ggX8_warm_X8_tankAt : GoodIn wsX8_warm wsX8_tankAt := goodIn_r _ [7, 8, 9, 10, 6, 11, 17, 18, 19, 20, 21, 22, 23, 24, 25, 26, 27, 28, 29, 30, 31] rfl (by decide +kernel)
set_option maxRecDepth 20000 in
theorem gX8_warm_X8_tankAt : GoodIn wsX8_warm (wsV RX8 139 RX8 yX8_tankAt wsX8_tankAt) := goodIn_app (goodIn_of _ (by decide +kernel)) ggX8_warm_X8_tankAt
set_option maxRecDepth 20000 in
theorem ggX8_warm_X8_isIn : GoodIn wsX8_warm wsX8_isIn := goodIn_r _ [11] rfl (by decide +kernel)
set_option maxRecDepth 20000 in
theorem gX8_warm_X8_isIn : GoodIn wsX8_warm (va_wsS RX8 85 yX8_isIn wsX8_isIn) := goodIn_app (goodIn_of _ (by decide +kernel)) ggX8_warm_X8_isIn
set_option maxRecDepth 20000 in
theorem ggX8_pour_X8_lotAt : GoodIn wsX8_pour wsX8_lotAt := goodIn_r _ [6, 7, 8, 9, 5, 10, 38, 39, 40, 41, 42, 43, 44, 45, 46, 47, 48, 49, 50, 51, 52] rfl (by decide +kernel)
set_option maxRecDepth 20000 in
theorem gX8_pour_X8_lotAt : GoodIn wsX8_pour (wsV RX8 96 RX8 yX8_lotAt wsX8_lotAt) := goodIn_app (goodIn_of _ (by decide +kernel)) ggX8_pour_X8_lotAt
set_option maxRecDepth 20000 in
theorem ggX8_pour_X8_tankAt : GoodIn wsX8_pour wsX8_tankAt := goodIn_r _ [14, 15, 8, 9, 5, 10, 38, 39, 40, 41, 42, 43, 44, 45, 46, 47, 48, 49, 50, 51, 52] rfl (by decide +kernel)
set_option maxRecDepth 20000 in
theorem gX8_pour_X8_tankAt : GoodIn wsX8_pour (wsV RX8 139 RX8 yX8_tankAt wsX8_tankAt) := goodIn_app (goodIn_of _ (by decide +kernel)) ggX8_pour_X8_tankAt
set_option maxRecDepth 20000 in
theorem ggX8_pour_X8_isIn : GoodIn wsX8_pour wsX8_isIn := goodIn_r _ [10] rfl (by decide +kernel)
set_option maxRecDepth 20000 in
theorem gX8_pour_X8_isIn : GoodIn wsX8_pour (va_wsS RX8 85 yX8_isIn wsX8_isIn) := goodIn_app (goodIn_of _ (by decide +kernel)) ggX8_pour_X8_isIn
set_option maxRecDepth 20000 in
theorem ggX8_pour_X7_hasRoomFor : GoodIn wsX8_pour wsX7_hasRoomFor := goodIn_r _ [20, 21, 22, 53, 54, 55, 56, 57] rfl (by decide +kernel)
set_option maxRecDepth 20000 in
theorem gX8_pour_X7_hasRoomFor : GoodIn wsX8_pour (wsV RX8 153 RX7 yX7_hasRoomFor wsX7_hasRoomFor) := goodIn_app (goodIn_of _ (by decide +kernel)) ggX8_pour_X7_hasRoomFor
set_option maxRecDepth 20000 in
theorem ggX8_pour_X7_addGrams : GoodIn wsX8_pour wsX7_addGrams := goodIn_r _ [26, 27, 22, 53, 54, 55, 56, 57] rfl (by decide +kernel)
set_option maxRecDepth 20000 in
theorem gX8_pour_X7_addGrams : GoodIn wsX8_pour (wsV RX8 157 RX7 yX7_addGrams wsX7_addGrams) := goodIn_app (goodIn_of _ (by decide +kernel)) ggX8_pour_X7_addGrams
set_option maxRecDepth 20000 in
theorem ggX8_spill_X8_tankAt : GoodIn wsX8_spill wsX8_tankAt := goodIn_r _ [7, 8, 9, 10, 6, 11, 50, 51, 52, 53, 54, 55, 56, 57, 58, 59, 60, 61, 62, 63, 64] rfl (by decide +kernel)
set_option maxRecDepth 20000 in
theorem gX8_spill_X8_tankAt : GoodIn wsX8_spill (wsV RX8 139 RX8 yX8_tankAt wsX8_tankAt) := goodIn_app (goodIn_of _ (by decide +kernel)) ggX8_spill_X8_tankAt
set_option maxRecDepth 20000 in
theorem ggX8_spill_X8_isIn : GoodIn wsX8_spill wsX8_isIn := goodIn_r _ [11] rfl (by decide +kernel)
set_option maxRecDepth 20000 in
theorem gX8_spill_X8_isIn : GoodIn wsX8_spill (va_wsS RX8 85 yX8_isIn wsX8_isIn) := goodIn_app (goodIn_of _ (by decide +kernel)) ggX8_spill_X8_isIn
set_option maxRecDepth 20000 in
theorem ggX8_spill_X1_drawFrom : GoodIn wsX8_spill wsX1_drawFrom := goodIn_r _ [16, 17, 18, 19, 20, 21, 22, 15, 23, 24, 25, 26, 27, 28, 29, 30, 31, 32, 33, 34, 35, 36, 37, 38, 39, 40, 41, 42, 43, 44, 65, 66, 45, 46, 47, 48, 49] rfl (by decide +kernel)
set_option maxRecDepth 20000 in
theorem gX8_spill_X1_drawFrom : GoodIn wsX8_spill (wsV RX8 163 RX1 yX1_drawFrom wsX1_drawFrom) := goodIn_app (goodIn_of _ (by decide +kernel)) ggX8_spill_X1_drawFrom
set_option maxRecDepth 20000 in
theorem ggX8_move_X8_tankAt : GoodIn wsX8_move wsX8_tankAt := goodIn_r _ [8, 9, 10, 11, 7, 12, 64, 65, 66, 67, 68, 69, 70, 71, 72, 73, 74, 75, 76, 77, 78] rfl (by decide +kernel)
set_option maxRecDepth 20000 in
theorem gX8_move_X8_tankAt : GoodIn wsX8_move (wsV RX8 139 RX8 yX8_tankAt wsX8_tankAt) := goodIn_app (goodIn_of _ (by decide +kernel)) ggX8_move_X8_tankAt
set_option maxRecDepth 20000 in
theorem ggX8_move_X8_isIn : GoodIn wsX8_move wsX8_isIn := goodIn_r _ [12] rfl (by decide +kernel)
set_option maxRecDepth 20000 in
theorem gX8_move_X8_isIn : GoodIn wsX8_move (va_wsS RX8 85 yX8_isIn wsX8_isIn) := goodIn_app (goodIn_of _ (by decide +kernel)) ggX8_move_X8_isIn
set_option maxRecDepth 20000 in
theorem ggX8_move_X7_hasRoomFor : GoodIn wsX8_move wsX7_hasRoomFor := goodIn_r _ [17, 18, 19, 59, 60, 61, 62, 63] rfl (by decide +kernel)
set_option maxRecDepth 20000 in
theorem gX8_move_X7_hasRoomFor : GoodIn wsX8_move (wsV RX8 153 RX7 yX7_hasRoomFor wsX7_hasRoomFor) := goodIn_app (goodIn_of _ (by decide +kernel)) ggX8_move_X7_hasRoomFor
set_option maxRecDepth 20000 in
theorem ggX8_move_X1_drawFrom : GoodIn wsX8_move wsX1_drawFrom := goodIn_r _ [24, 25, 26, 27, 28, 29, 30, 23, 31, 32, 33, 34, 35, 36, 37, 38, 39, 40, 16, 41, 42, 43, 44, 45, 46, 47, 48, 49, 50, 19, 79, 80, 59, 60, 61, 62, 63] rfl (by decide +kernel)
set_option maxRecDepth 20000 in
theorem gX8_move_X1_drawFrom : GoodIn wsX8_move (wsV RX8 163 RX1 yX1_drawFrom wsX1_drawFrom) := goodIn_app (goodIn_of _ (by decide +kernel)) ggX8_move_X1_drawFrom
set_option maxRecDepth 20000 in
theorem ggX8_move_X1_fillInto : GoodIn wsX8_move wsX1_fillInto := goodIn_r _ [54, 26, 27, 55, 56, 57, 58, 25, 47, 48, 49, 16, 50, 42, 19, 59, 60, 61, 62, 63, 79, 80] rfl (by decide +kernel)
set_option maxRecDepth 20000 in
theorem gX8_move_X1_fillInto : GoodIn wsX8_move (wsV RX8 167 RX1 yX1_fillInto wsX1_fillInto) := goodIn_app (goodIn_of _ (by decide +kernel)) ggX8_move_X1_fillInto
set_option maxRecDepth 20000 in
theorem ggX8_of_X8_lotAt : GoodIn wsX8_of wsX8_lotAt := goodIn_r _ [12, 13, 14, 15, 11, 16, 27, 28, 29, 30, 31, 32, 33, 34, 35, 36, 37, 38, 39, 40, 41] rfl (by decide +kernel)
set_option maxRecDepth 20000 in
theorem gX8_of_X8_lotAt : GoodIn wsX8_of (wsV RX8 96 RX8 yX8_lotAt wsX8_lotAt) := goodIn_app (goodIn_of _ (by decide +kernel)) ggX8_of_X8_lotAt
set_option maxRecDepth 20000 in
theorem ggX8_holds_X8_vesselAt : GoodIn wsX8_holds wsX8_vesselAt := goodIn_r _ [9, 10, 11, 12, 13, 8, 14, 15, 16, 17, 18, 30, 31, 32, 33, 34, 35, 36, 37, 38, 39, 40, 41, 42, 43, 44] rfl (by decide +kernel)
set_option maxRecDepth 20000 in
theorem gX8_holds_X8_vesselAt : GoodIn wsX8_holds (wsV RX8 173 RX8 yX8_vesselAt wsX8_vesselAt) := goodIn_app (goodIn_of _ (by decide +kernel)) ggX8_holds_X8_vesselAt
set_option maxRecDepth 20000 in
theorem ggX8_holds_X7_lotsInIt : GoodIn wsX8_holds wsX7_lotsInIt := goodIn_r _ [23, 24, 25, 26, 27, 28, 29] rfl (by decide +kernel)
set_option maxRecDepth 20000 in
theorem gX8_holds_X7_lotsInIt : GoodIn wsX8_holds (wsV RX8 177 RX7 yX7_lotsInIt wsX7_lotsInIt) := goodIn_app (goodIn_of _ (by decide +kernel)) ggX8_holds_X7_lotsInIt
set_option maxRecDepth 20000 in
theorem ggX8_part_X8_vesselAt : GoodIn wsX8_part wsX8_vesselAt := goodIn_r _ [5, 6, 7, 8, 9, 4, 10, 11, 12, 13, 14, 26, 27, 28, 29, 30, 31, 32, 33, 34, 35, 36, 37, 38, 39, 40] rfl (by decide +kernel)
set_option maxRecDepth 20000 in
theorem gX8_part_X8_vesselAt : GoodIn wsX8_part (wsV RX8 173 RX8 yX8_vesselAt wsX8_vesselAt) := goodIn_app (goodIn_of _ (by decide +kernel)) ggX8_part_X8_vesselAt
set_option maxRecDepth 20000 in
theorem ggX8_part_X8_lotAt : GoodIn wsX8_part wsX8_lotAt := goodIn_r _ [18, 19, 12, 13, 4, 14, 26, 27, 28, 29, 30, 31, 32, 33, 34, 35, 36, 37, 38, 39, 40] rfl (by decide +kernel)
set_option maxRecDepth 20000 in
theorem gX8_part_X8_lotAt : GoodIn wsX8_part (wsV RX8 96 RX8 yX8_lotAt wsX8_lotAt) := goodIn_app (goodIn_of _ (by decide +kernel)) ggX8_part_X8_lotAt
set_option maxRecDepth 20000 in
theorem ggX8_part_X7_gramsOf : GoodIn wsX8_part wsX7_gramsOf := goodIn_r _ [24, 25, 41, 42, 43, 44, 45] rfl (by decide +kernel)
set_option maxRecDepth 20000 in
theorem gX8_part_X7_gramsOf : GoodIn wsX8_part (wsV RX8 181 RX7 yX7_gramsOf wsX7_gramsOf) := goodIn_app (goodIn_of _ (by decide +kernel)) ggX8_part_X7_gramsOf
set_option maxRecDepth 20000 in
theorem ggX8_found_X8_isIn : GoodIn wsX8_found wsX8_isIn := goodIn_r _ [6] rfl (by decide +kernel)
set_option maxRecDepth 20000 in
theorem gX8_found_X8_isIn : GoodIn wsX8_found (va_wsS RX8 85 yX8_isIn wsX8_isIn) := goodIn_app (goodIn_of _ (by decide +kernel)) ggX8_found_X8_isIn
set_option maxHeartbeats 4000000 in
set_option maxRecDepth 100000 in
theorem h_tank (l : Launch) (D : va_G) (ρ : Nat → Nat) (ws : va_W) (tys : List (ClassId × FieldType)) (fv : Nat → Nat → Int32) (h0 lc bc rc fc : Nat) (dn : Int32) (tl : Nat) (a1 a2 a3 : Int32) (sz : Nat) (X : XI ρ fv ws tys h0 lc bc rc fc dn tl) : Met l yX8_tank wsX8_tank ({ frames := 2, cells := 0, slots := 0, locals := 43 }) (va_Pc [.ref h0, .int a1, .int a2, .int a3] (fun U => U.heap.size = sz ∧ va_P D vwCl ws U.heap ∧ va_K D vwCl tys U ∧ va_D (fun _ => True) ws)) (va_Qi (fun (r : Int32) (_ : Unit) => (tnkN fv a1 a2 a3 ∧ r = 0) ∨ (¬ tnkN fv a1 a2 a3 ∧ r = 1)) (fun (_ : Unit) (t : State) => ∃ (ws' : va_W) (tys' : List (ClassId × FieldType)), tyx tys tys' ∧ va_P D vwCl ws' t.heap ∧ va_K D vwCl tys' t ∧ va_D (va_A ws sz) ws' ∧ ((tnkN fv a1 a2 a3 ∧ XI ρ fv ws' tys' h0 lc bc rc fc dn tl) ∨ (¬ tnkN fv a1 a2 a3 ∧ XI ρ (tnkF fv a1 a2 a3) ws' tys' h0 lc bc rc fc dn tl))) (va_A ws sz)) 0 0 (va_A ws sz) := by
  refine Met.ofW (cc := cX8_tank) (maxL := 5) (ret := (some .boolean)) (by decide) rfl ?_
  intro p e s m args below meth c s₁ B hml hv
  obtain ⟨rfl, hsz, hP, hK, hD0⟩ := hv
  have hx := B.exec
  have hb := B.bytes
  have hr := B.returns
  have hts := atoms_spec (ws := wsX8_tank) B.pre
  have hown : s.vm.findClass RX8 = some m.cls := findClass_of_methodNamed B.named
  have hlocks := B.notSynchronized
  subst hsz
  have hD := hD0.self (sz := s.heap.size)
  generalize hAe : va_A ws s.heap.size = A at hD ⊢
  have hA : ∀ q : Nat, s.heap.size ≤ q → A q := fun q h => by rw [← hAe]; exact Or.inr h
  have hS : va_S A s.heap s.heap [] := va_S.rf
  have hsm : sm (uy ρ [10000 + 2 * a1.toNatClampNeg, 10001 + 2 * a1.toNatClampNeg]) [7] ws ws := sm.rf ws
  have htx : tyx tys tys := tyx.rf tys
  have hin7 : ∀ w ∈ u_ws RX7 TX7 5, w ∈ wsX8_tank := (fun _ h9 => List.mem_cons_of_mem _ (List.mem_append_left _ ((List.mem_append_right _ h9))))
  have hl := lv_entry ([.ref h0, .int a1, .int a2, .int a3]) (n := 5) (Nat.le_of_ble_eq_true rfl)
  rw [lg_entry_eq]
  generalize (lg_sl ([.ref h0, .int a1, .int a2, .int a3]) ++ List.replicate (5 - (lg_sl ([.ref h0, .int a1, .int a2, .int a3])).length) Slot.unset).toArray = ls at hl ⊢
  have hl : lv_has ls 5 [(0, .ref h0), (1, .int a1), (2, .int a2), (3, .int a3)] := hl
  obtain ⟨k0, la, ta, ba, ra, sn, rd, dr, bl, vd, fb, e0, w0, hle0, hnum, qla, qta, qba, qra, qsn, qrd, qdr, qbl, qvd, qfb⟩ := id X
  obtain ⟨kla, cla, tla, fla, ela, ula, hla0, hla1⟩ := id qla
  have hlc := hnum.1
  obtain ⟨kta, cta, tta, fta, eta, uta, hta0, hta1⟩ := id qta
  refine lv_aload_n hx hb dX8_tank_0 rfl (lv_at hl 0 rfl) ?_
  refine lv_iload_n hx hb dX8_tank_1 rfl (lv_at hl 1 rfl) ?_
  refine va_csq (W.runV (As := [.int a1]) (rest := []) ⟨hx, hb, hml, hown, hts⟩ (s_X8_tankAt l D ws tys h0 k0 _ ta kta cta fta tta a1 e0 rfl eta uta) (cwV 1 hts gX8_tank_X8_tankAt rfl rfl rfl (by decide +kernel) ⟨Nat.le_of_ble_eq_true rfl, Nat.le_of_ble_eq_true rfl⟩) ⟨fun a U g mk q => ⟨q.1, q.2.1, va_K.moved (u := U) (U := U.calling g mk a) (Vm.Alike.refl U.vm) q.2.2⟩, va_recv hK hP (ci := 8) (q0 := k0) rfl e0, fun U hU hW => ⟨rfl, by rw [hU]; exact hP, va_K.moved hW.alike hK⟩⟩ rfl rfl hl.1 rfl (lv_room (Nat.le_of_ble_eq_true rfl)) dX8_tank_2 ⟨Nat.le_of_ble_eq_true rfl, Nat.le_of_ble_eq_true rfl⟩) (fun r_1 k_2 => ?_)
  have hz_3 := tankx hta1 k_2
  rcases hz_3 with ⟨rfl, o_4⟩ | ⟨a_5, b_6, hj_7, v_8, rfl, hg_9, hV_10⟩
  · refine tp_v (y := .null) rfl ?_
    refine lv_astoreN (lv' := [(4, .null), (0, .ref h0), (1, .int a1), (2, .int a2), (3, .int a3)]) hx hb dX8_tank_5 hl (by decide) rfl (fun ls hl => ?_)
    refine lv_aloadN hx hb dX8_tank_7 (lv_at hl 0 rfl) ?_
    refine lv_ifnullN (tgt := 33) hx hb dX8_tank_9 (by decide) ?_
    refine lv_iconst (v := 0) hx hb dX8_tank_33 (by decide) ?_
    exact W.zret (v := 0) hx hb hr rfl (fun t ht hW => ⟨⟨0, (), rfl, Or.inl ⟨Or.inl o_4, rfl⟩, ws, tys, htx, by rw [ht]; exact hP, va_K.moved hW.alike hK, hD, Or.inl ⟨Or.inl o_4, X⟩⟩, hS.F ht⟩) hS.2.2 dX8_tank_34
  obtain ⟨k_11, g_12, e_13, wk_14, k_15, c9_16, t_17, f_18, e_19, u_20, wr_21, g_22⟩ := hV_10
  refine tp_v (y := .ref v_8) rfl ?_
  refine lv_astore (lv' := [(4, .ref v_8), (0, .ref h0), (1, .int a1), (2, .int a2), (3, .int a3)]) hx hb dX8_tank_5 hl (by decide) rfl (fun ls hl => ?_)
  refine lv_aload hx hb dX8_tank_7 (lv_at hl 0 rfl) ?_
  refine lv_ifnull hx hb dX8_tank_9 ?_
  refine lv_iload_n hx hb dX8_tank_12 rfl (lv_at hl 3 rfl) ?_
  refine lv_iconst (v := 0) hx hb dX8_tank_13 (by decide) ?_
  refine lv_ldc hx hb hown (hts (.constant RX8 143 (1000000)) (List.mem_of_getElem? (i := 1) rfl)) dX8_tank_14 ?_
  refine vp_callSi (W.runS (As := [.int a2, .int 0, .int 1000000]) (rest := []) ⟨hx, hb, hml, hown, hts⟩ (s_X8_isIn l a2 0 1000000) (va_cwS 3 hts gX8_tank_X8_isIn rfl rfl rfl (by decide +kernel) ⟨Nat.le_of_ble_eq_true rfl, Nat.le_of_ble_eq_true rfl⟩) ⟨fun a U g mk q => q, fun U hU hW => ⟨rfl, trivial⟩⟩ rfl rfl hl.1 rfl (lv_room (Nat.le_of_ble_eq_true rfl)) dX8_tank_16 ⟨Nat.le_of_ble_eq_true rfl, Nat.le_of_ble_eq_true rfl⟩) (fun r_23 k_24 => ?_)
  rcases k_24 with ⟨rfl, a_25o⟩ | ⟨rfl, a_25, b_26⟩
  · refine lv_if_eq (tgt := 33) hx hb dX8_tank_19 (by decide) (fun c_27 => ?_) (fun c_27 => absurd (by decide) c_27)
    refine lv_iconst (v := 0) hx hb dX8_tank_33 (by decide) ?_
    exact W.zret (v := 0) hx hb hr rfl (fun t ht hW => ⟨⟨0, (), rfl, Or.inl ⟨Or.inr (Or.inl a_25o), rfl⟩, ws, tys, htx, by rw [ht]; exact hP, va_K.moved hW.alike hK, hD, Or.inl ⟨Or.inr (Or.inl a_25o), X⟩⟩, hS.F ht⟩) hS.2.2 dX8_tank_34
  refine lv_if_eq (tgt := 33) hx hb dX8_tank_19 (by decide) (fun c_28 => absurd c_28 (by decide)) (fun c_28 => ?_)
  refine lv_iload_n hx hb dX8_tank_22 rfl (lv_at hl 4 rfl) ?_
  refine lv_iconst (v := 0) hx hb dX8_tank_23 (by decide) ?_
  refine lv_sipush (v := 10000) hx hb dX8_tank_24 (by decide) ?_
  refine vp_callSi (W.runS (As := [.int a3, .int 0, .int 10000]) (rest := []) ⟨hx, hb, hml, hown, hts⟩ (s_X8_isIn l a3 0 10000) (va_cwS 3 hts gX8_tank_X8_isIn rfl rfl rfl (by decide +kernel) ⟨Nat.le_of_ble_eq_true rfl, Nat.le_of_ble_eq_true rfl⟩) ⟨fun a U g mk q => q, fun U hU hW => ⟨rfl, trivial⟩⟩ rfl rfl hl.1 rfl (lv_room (Nat.le_of_ble_eq_true rfl)) dX8_tank_27 ⟨Nat.le_of_ble_eq_true rfl, Nat.le_of_ble_eq_true rfl⟩) (fun r_29 k_30 => ?_)
  rcases k_30 with ⟨rfl, a_31o⟩ | ⟨rfl, a_31, b_32⟩
  · refine lv_if_ne (tgt := 35) hx hb dX8_tank_30 (by decide) (fun c_33 => absurd (by decide) c_33) (fun c_33 => ?_)
    refine lv_iconst (v := 0) hx hb dX8_tank_33 (by decide) ?_
    exact W.zret (v := 0) hx hb hr rfl (fun t ht hW => ⟨⟨0, (), rfl, Or.inl ⟨Or.inr (Or.inr (Or.inl a_31o)), rfl⟩, ws, tys, htx, by rw [ht]; exact hP, va_K.moved hW.alike hK, hD, Or.inl ⟨Or.inr (Or.inr (Or.inl a_31o)), X⟩⟩, hS.F ht⟩) hS.2.2 dX8_tank_34
  refine lv_if_ne (tgt := 35) hx hb dX8_tank_30 (by decide) (fun c_34 => ?_) (fun c_34 => absurd c_34 (by decide))
  refine lv_aload hx hb dX8_tank_35 (lv_at hl 0 rfl) ?_
  refine va_get (D := D) (ci := 7) (v := .int (mall (fv 9) a1.toNatClampNeg 40)) (C := RX7) (T := TX7) (N := 5) hx hb hts hin7 hown hK hP k_11 e_13 rfl 1 (by decide) (hts (.fieldLink RX8 144 "HoneyHouse$Vessel" "total" "I") (List.mem_of_getElem? (i := 2) rfl)) (fun _ h9 => h9) rfl dX8_tank_37 ?_
  refine lv_iload_n hx hb dX8_tank_40 rfl (lv_at hl 3 rfl) ?_
  refine lv_icmp_le (tgt := 46) hx hb dX8_tank_41 (by decide) (fun c_35 => ?_) (fun c_35 => ?_)
  · refine lv_aload hx hb dX8_tank_46 (lv_at hl 0 rfl) ?_
    refine lv_iload_n hx hb dX8_tank_48 rfl (lv_at hl 3 rfl) ?_
    refine va_put (D := D) (ci := 7) (v := .int a2) (ty := .int) (C := RX7) (T := TX7) (N := 5) hx hb hts hin7 tyX7 tyX7_ok nmX7 hown hK hP hD hS k_11 e_13 rfl 3 (by decide) (hts (.fieldLink RX8 147 "HoneyHouse$Vessel" "roomOrTank" "I") (List.mem_of_getElem? (i := 3) rfl)) (fun _ h9 => h9) rfl (tyX7_ok 3 (by decide)) rfl rfl (Nat.le_of_ble_eq_true rfl) dX8_tank_49 (fun H locs hP hD hS => ?_)
    have hP : va_P D vwCl (ws.set k_11 (v_8, .inr (7, [.ref g_12, .int (mall (fv 9) a1.toNatClampNeg 40), .int (fv 10 a1.toNatClampNeg), .int a2, .int (fv 12 a1.toNatClampNeg)]))) H := hP
    have hD : va_D A (ws.set k_11 (v_8, .inr (7, [.ref g_12, .int (mall (fv 9) a1.toNatClampNeg 40), .int (fv 10 a1.toNatClampNeg), .int a2, .int (fv 12 a1.toNatClampNeg)]))) := hD
    have hm_37 : sm (uy ρ [10000 + 2 * a1.toNatClampNeg, 10001 + 2 * a1.toNatClampNeg]) [7] ws (ws.set k_11 (v_8, .inr (7, [.ref g_12, .int (mall (fv 9) a1.toNatClampNeg 40), .int (fv 10 a1.toNatClampNeg), .int a2, .int (fv 12 a1.toNatClampNeg)]))) := sm.flds e_13 (smF.c (smV.rf _) (smF.c (smV.rf _) (smF.c (smV.rf _) (smF.c (smV.i _ _) (smF.c (smV.rf _) (rfl)))))) (List.mem_singleton.mpr rfl) (uy_in wk_14 (List.Mem.head _))
    have e_38 : (ws.set k_11 (v_8, .inr (7, [.ref g_12, .int (mall (fv 9) a1.toNatClampNeg 40), .int (fv 10 a1.toNatClampNeg), .int a2, .int (fv 12 a1.toNatClampNeg)])))[k_11]? = some (v_8, .inr (7, [.ref g_12, .int (mall (fv 9) a1.toNatClampNeg 40), .int (fv 10 a1.toNatClampNeg), .int a2, .int (fv 12 a1.toNatClampNeg)])) := wset_self e_13
    have e_39 := set_n (z := (v_8, .inr (7, [.ref g_12, .int (mall (fv 9) a1.toNatClampNeg 40), .int (fv 10 a1.toNatClampNeg), .int a2, .int (fv 12 a1.toNatClampNeg)]))) e0 (pl_ne e0 e_13 (by intro h9; simp at h9))
    have e_40 := set_n (z := (v_8, .inr (7, [.ref g_12, .int (mall (fv 9) a1.toNatClampNeg 40), .int (fv 10 a1.toNatClampNeg), .int a2, .int (fv 12 a1.toNatClampNeg)]))) ela (pl_ne ela e_13 (by intro h9; simp at h9))
    have e_41 := set_n (z := (v_8, .inr (7, [.ref g_12, .int (mall (fv 9) a1.toNatClampNeg 40), .int (fv 10 a1.toNatClampNeg), .int a2, .int (fv 12 a1.toNatClampNeg)]))) eta (pl_ne eta e_13 (by intro h9; simp at h9))
    have e_42 := set_n (z := (v_8, .inr (7, [.ref g_12, .int (mall (fv 9) a1.toNatClampNeg 40), .int (fv 10 a1.toNatClampNeg), .int a2, .int (fv 12 a1.toNatClampNeg)]))) e_19 (pl_ne e_19 e_13 (by intro h9; simp at h9))
    generalize ws.set k_11 (v_8, .inr (7, [.ref g_12, .int (mall (fv 9) a1.toNatClampNeg 40), .int (fv 10 a1.toNatClampNeg), .int a2, .int (fv 12 a1.toNatClampNeg)])) = ws_36 at hP hD hm_37 e_38 e_39 e_40 e_41 e_42
    have hsm := hsm.tr (hm_37.mono (by decide))
    refine lv_aload hx hb dX8_tank_52 (lv_at hl 0 rfl) ?_
    refine lv_iload_n hx hb dX8_tank_54 rfl (lv_at hl 4 rfl) ?_
    refine va_put (D := D) (ci := 7) (v := .int a3) (ty := .int) (C := RX7) (T := TX7) (N := 5) hx hb hts hin7 tyX7 tyX7_ok nmX7 hown hK hP hD hS k_11 e_38 rfl 4 (by decide) (hts (.fieldLink RX8 150 "HoneyHouse$Vessel" "priceOrDay" "I") (List.mem_of_getElem? (i := 4) rfl)) (fun _ h9 => h9) rfl (tyX7_ok 4 (by decide)) rfl rfl (Nat.le_of_ble_eq_true rfl) dX8_tank_55 (fun H locs hP hD hS => ?_)
    have hP : va_P D vwCl (ws_36.set k_11 (v_8, .inr (7, [.ref g_12, .int (mall (fv 9) a1.toNatClampNeg 40), .int (fv 10 a1.toNatClampNeg), .int a2, .int a3]))) H := hP
    have hD : va_D A (ws_36.set k_11 (v_8, .inr (7, [.ref g_12, .int (mall (fv 9) a1.toNatClampNeg 40), .int (fv 10 a1.toNatClampNeg), .int a2, .int a3]))) := hD
    have hm_44 : sm (uy ρ [10000 + 2 * a1.toNatClampNeg, 10001 + 2 * a1.toNatClampNeg]) [7] ws_36 (ws_36.set k_11 (v_8, .inr (7, [.ref g_12, .int (mall (fv 9) a1.toNatClampNeg 40), .int (fv 10 a1.toNatClampNeg), .int a2, .int a3]))) := sm.flds e_38 (smF.c (smV.rf _) (smF.c (smV.rf _) (smF.c (smV.rf _) (smF.c (smV.rf _) (smF.c (smV.i _ _) (rfl)))))) (List.mem_singleton.mpr rfl) (uy_in wk_14 (List.Mem.head _))
    have e_45 : (ws_36.set k_11 (v_8, .inr (7, [.ref g_12, .int (mall (fv 9) a1.toNatClampNeg 40), .int (fv 10 a1.toNatClampNeg), .int a2, .int a3])))[k_11]? = some (v_8, .inr (7, [.ref g_12, .int (mall (fv 9) a1.toNatClampNeg 40), .int (fv 10 a1.toNatClampNeg), .int a2, .int a3])) := wset_self e_38
    have e_46 := set_n (z := (v_8, .inr (7, [.ref g_12, .int (mall (fv 9) a1.toNatClampNeg 40), .int (fv 10 a1.toNatClampNeg), .int a2, .int a3]))) e_39 (pl_ne e_39 e_38 (by intro h9; simp at h9))
    have e_47 := set_n (z := (v_8, .inr (7, [.ref g_12, .int (mall (fv 9) a1.toNatClampNeg 40), .int (fv 10 a1.toNatClampNeg), .int a2, .int a3]))) e_40 (pl_ne e_40 e_38 (by intro h9; simp at h9))
    have e_48 := set_n (z := (v_8, .inr (7, [.ref g_12, .int (mall (fv 9) a1.toNatClampNeg 40), .int (fv 10 a1.toNatClampNeg), .int a2, .int a3]))) e_41 (pl_ne e_41 e_38 (by intro h9; simp at h9))
    have e_49 := set_n (z := (v_8, .inr (7, [.ref g_12, .int (mall (fv 9) a1.toNatClampNeg 40), .int (fv 10 a1.toNatClampNeg), .int a2, .int a3]))) e_42 (pl_ne e_42 e_38 (by intro h9; simp at h9))
    generalize ws_36.set k_11 (v_8, .inr (7, [.ref g_12, .int (mall (fv 9) a1.toNatClampNeg 40), .int (fv 10 a1.toNatClampNeg), .int a2, .int a3])) = ws_43 at hP hD hm_44 e_45 e_46 e_47 e_48 e_49
    have hsm := hsm.tr (hm_44.mono (by decide))
    refine lv_iconst (v := 1) hx hb dX8_tank_58 (by decide) ?_
    exact W.zret (v := 1) hx hb hr rfl (fun t ht hW => ⟨⟨1, (), rfl, Or.inr ⟨(fun h => Or.elim h (fun h => Or.elim h a_5 b_6) (fun h => Or.elim h (fun h => Or.elim h a_25 b_26) (fun h => Or.elim h (fun h => Or.elim h a_31 b_32) (i_le_n c_35)))), rfl⟩, ws_43, tys, htx, by rw [ht]; exact hP, va_K.moved hW.alike hK, hD, Or.inr ⟨(fun h => Or.elim h (fun h => Or.elim h a_5 b_6) (fun h => Or.elim h (fun h => Or.elim h a_25 b_26) (fun h => Or.elim h (fun h => Or.elim h a_31 b_32) (i_le_n c_35)))), (xi_v1 (fv' := (tnkF fv a1 a2 a3)) e_46 w0 hle0 hnum ((CL.sm qla hsm htx (fun k _ h1 h2 => uy2 (by omega) (by omega) (by omega))).fvx (fun _ _ _ _ => rfl) rfl rfl rfl) e_48 uta hta0 hta1 qba qra qsn qrd qdr qbl qvd qfb hsm htx (by decide) hj_7 (fun k h1 h2 h3 => uy2 (by omega) (by omega) (by omega)) hg_9 (show VES ρ (tnkF fv a1 a2 a3) ws_43 tys v_8 a1.toNatClampNeg from ⟨k_11, g_12, (ves_tnk e_45), wk_14, ⟨k_15, c9_16, t_17, f_18, e_49, u_20, wr_21, g_22⟩⟩) rfl rfl (fun _ _ _ _ => rfl) (fun _ _ => rfl) (fun r h => upd_n h) (fun r h => upd_n h))⟩⟩, hS.F ht⟩) hS.2.2 dX8_tank_59
  refine lv_iconst (v := 0) hx hb dX8_tank_44 (by decide) ?_
  exact W.zret (v := 0) hx hb hr rfl (fun t ht hW => ⟨⟨0, (), rfl, Or.inl ⟨Or.inr (Or.inr (Or.inr ((i_nle c_35)))), rfl⟩, ws, tys, htx, by rw [ht]; exact hP, va_K.moved hW.alike hK, hD, Or.inl ⟨Or.inr (Or.inr (Or.inr ((i_nle c_35)))), X⟩⟩, hS.F ht⟩) hS.2.2 dX8_tank_45
set_option maxHeartbeats 4000000 in
set_option maxRecDepth 100000 in
theorem h_warm (l : Launch) (D : va_G) (ρ : Nat → Nat) (ws : va_W) (tys : List (ClassId × FieldType)) (fv : Nat → Nat → Int32) (h0 lc bc rc fc : Nat) (dn : Int32) (tl : Nat) (a1 a2 : Int32) (sz : Nat) (X : XI ρ fv ws tys h0 lc bc rc fc dn tl) : Met l yX8_warm wsX8_warm ({ frames := 2, cells := 0, slots := 0, locals := 43 }) (va_Pc [.ref h0, .int a1, .int a2] (fun U => U.heap.size = sz ∧ va_P D vwCl ws U.heap ∧ va_K D vwCl tys U ∧ va_D (fun _ => True) ws)) (va_Qi (fun (r : Int32) (_ : Unit) => (wrmN fv a1 a2 ∧ r = (-1)) ∨ (¬ wrmN fv a1 a2 ∧ r = fv 10 a1.toNatClampNeg + a2)) (fun (_ : Unit) (t : State) => ∃ (ws' : va_W) (tys' : List (ClassId × FieldType)), tyx tys tys' ∧ va_P D vwCl ws' t.heap ∧ va_K D vwCl tys' t ∧ va_D (va_A ws sz) ws' ∧ ((wrmN fv a1 a2 ∧ XI ρ fv ws' tys' h0 lc bc rc fc dn tl) ∨ (¬ wrmN fv a1 a2 ∧ XI ρ (wrmF fv a1 a2) ws' tys' h0 lc bc rc fc dn tl))) (va_A ws sz)) 0 0 (va_A ws sz) := by
  refine Met.ofW (cc := cX8_warm) (maxL := 4) (ret := (some .int)) (by decide) rfl ?_
  intro p e s m args below meth c s₁ B hml hv
  obtain ⟨rfl, hsz, hP, hK, hD0⟩ := hv
  have hx := B.exec
  have hb := B.bytes
  have hr := B.returns
  have hts := atoms_spec (ws := wsX8_warm) B.pre
  have hown : s.vm.findClass RX8 = some m.cls := findClass_of_methodNamed B.named
  have hlocks := B.notSynchronized
  subst hsz
  have hD := hD0.self (sz := s.heap.size)
  generalize hAe : va_A ws s.heap.size = A at hD ⊢
  have hA : ∀ q : Nat, s.heap.size ≤ q → A q := fun q h => by rw [← hAe]; exact Or.inr h
  have hS : va_S A s.heap s.heap [] := va_S.rf
  have hsm : sm (uy ρ [10000 + 2 * a1.toNatClampNeg, 10001 + 2 * a1.toNatClampNeg]) [7] ws ws := sm.rf ws
  have htx : tyx tys tys := tyx.rf tys
  have hin7 : ∀ w ∈ u_ws RX7 TX7 5, w ∈ wsX8_warm := (fun _ h9 => List.mem_cons_of_mem _ (List.mem_append_left _ ((List.mem_append_right _ h9))))
  have hl := lv_entry ([.ref h0, .int a1, .int a2]) (n := 4) (Nat.le_of_ble_eq_true rfl)
  rw [lg_entry_eq]
  generalize (lg_sl ([.ref h0, .int a1, .int a2]) ++ List.replicate (4 - (lg_sl ([.ref h0, .int a1, .int a2])).length) Slot.unset).toArray = ls at hl ⊢
  have hl : lv_has ls 4 [(0, .ref h0), (1, .int a1), (2, .int a2)] := hl
  obtain ⟨k0, la, ta, ba, ra, sn, rd, dr, bl, vd, fb, e0, w0, hle0, hnum, qla, qta, qba, qra, qsn, qrd, qdr, qbl, qvd, qfb⟩ := id X
  obtain ⟨kla, cla, tla, fla, ela, ula, hla0, hla1⟩ := id qla
  have hlc := hnum.1
  obtain ⟨kta, cta, tta, fta, eta, uta, hta0, hta1⟩ := id qta
  refine lv_aload_n hx hb dX8_warm_0 rfl (lv_at hl 0 rfl) ?_
  refine lv_iload_n hx hb dX8_warm_1 rfl (lv_at hl 1 rfl) ?_
  refine va_csq (W.runV (As := [.int a1]) (rest := []) ⟨hx, hb, hml, hown, hts⟩ (s_X8_tankAt l D ws tys h0 k0 _ ta kta cta fta tta a1 e0 rfl eta uta) (cwV 1 hts gX8_warm_X8_tankAt rfl rfl rfl (by decide +kernel) ⟨Nat.le_of_ble_eq_true rfl, Nat.le_of_ble_eq_true rfl⟩) ⟨fun a U g mk q => ⟨q.1, q.2.1, va_K.moved (u := U) (U := U.calling g mk a) (Vm.Alike.refl U.vm) q.2.2⟩, va_recv hK hP (ci := 8) (q0 := k0) rfl e0, fun U hU hW => ⟨rfl, by rw [hU]; exact hP, va_K.moved hW.alike hK⟩⟩ rfl rfl hl.1 rfl (lv_room (Nat.le_of_ble_eq_true rfl)) dX8_warm_2 ⟨Nat.le_of_ble_eq_true rfl, Nat.le_of_ble_eq_true rfl⟩) (fun r_1 k_2 => ?_)
  have hz_3 := tankx hta1 k_2
  rcases hz_3 with ⟨rfl, o_4⟩ | ⟨a_5, b_6, hj_7, v_8, rfl, hg_9, hV_10⟩
  · refine tp_v (y := .null) rfl ?_
    refine lv_astore_nN (lv' := [(3, .null), (0, .ref h0), (1, .int a1), (2, .int a2)]) hx hb dX8_warm_5 rfl hl (by decide) rfl (fun ls hl => ?_)
    refine lv_aload_nN hx hb dX8_warm_6 rfl (lv_at hl 0 rfl) ?_
    refine lv_ifnullN (tgt := 28) hx hb dX8_warm_7 (by decide) ?_
    refine lv_iconst (v := (-1)) hx hb dX8_warm_28 (by decide) ?_
    exact W.iret (v := (-1)) hx hb hr (fun t ht hW => ⟨⟨(-1), (), rfl, Or.inl ⟨Or.inl o_4, rfl⟩, ws, tys, htx, by rw [ht]; exact hP, va_K.moved hW.alike hK, hD, Or.inl ⟨Or.inl o_4, X⟩⟩, hS.F ht⟩) hS.2.2 dX8_warm_29
  obtain ⟨k_11, g_12, e_13, wk_14, k_15, c9_16, t_17, f_18, e_19, u_20, wr_21, g_22⟩ := hV_10
  refine tp_v (y := .ref v_8) rfl ?_
  refine lv_astore_n (lv' := [(3, .ref v_8), (0, .ref h0), (1, .int a1), (2, .int a2)]) hx hb dX8_warm_5 rfl hl (by decide) rfl (fun ls hl => ?_)
  refine lv_aload_n hx hb dX8_warm_6 rfl (lv_at hl 0 rfl) ?_
  refine lv_ifnull hx hb dX8_warm_7 ?_
  refine lv_aload_n hx hb dX8_warm_10 rfl (lv_at hl 0 rfl) ?_
  refine va_get (D := D) (ci := 7) (v := .int (mall (fv 9) a1.toNatClampNeg 40)) (C := RX7) (T := TX7) (N := 5) hx hb hts hin7 hown hK hP k_11 e_13 rfl 1 (by decide) (hts (.fieldLink RX8 144 "HoneyHouse$Vessel" "total" "I") (List.mem_of_getElem? (i := 1) rfl)) (fun _ h9 => h9) rfl dX8_warm_11 ?_
  refine lv_if_eq (tgt := 28) hx hb dX8_warm_14 (by decide) (fun c_23 => ?_) (fun c_23 => ?_)
  · refine lv_iconst (v := (-1)) hx hb dX8_warm_28 (by decide) ?_
    exact W.iret (v := (-1)) hx hb hr (fun t ht hW => ⟨⟨(-1), (), rfl, Or.inl ⟨Or.inr (Or.inl c_23), rfl⟩, ws, tys, htx, by rw [ht]; exact hP, va_K.moved hW.alike hK, hD, Or.inl ⟨Or.inr (Or.inl c_23), X⟩⟩, hS.F ht⟩) hS.2.2 dX8_warm_29
  refine lv_iload_n hx hb dX8_warm_17 rfl (lv_at hl 3 rfl) ?_
  refine lv_iconst (v := 1) hx hb dX8_warm_18 (by decide) ?_
  refine lv_sipush (v := 1000) hx hb dX8_warm_19 (by decide) ?_
  refine vp_callSi (W.runS (As := [.int a2, .int 1, .int 1000]) (rest := []) ⟨hx, hb, hml, hown, hts⟩ (s_X8_isIn l a2 1 1000) (va_cwS 3 hts gX8_warm_X8_isIn rfl rfl rfl (by decide +kernel) ⟨Nat.le_of_ble_eq_true rfl, Nat.le_of_ble_eq_true rfl⟩) ⟨fun a U g mk q => q, fun U hU hW => ⟨rfl, trivial⟩⟩ rfl rfl hl.1 rfl (lv_room (Nat.le_of_ble_eq_true rfl)) dX8_warm_22 ⟨Nat.le_of_ble_eq_true rfl, Nat.le_of_ble_eq_true rfl⟩) (fun r_24 k_25 => ?_)
  rcases k_25 with ⟨rfl, a_26o⟩ | ⟨rfl, a_26, b_27⟩
  · refine lv_if_ne (tgt := 30) hx hb dX8_warm_25 (by decide) (fun c_28 => absurd (by decide) c_28) (fun c_28 => ?_)
    refine lv_iconst (v := (-1)) hx hb dX8_warm_28 (by decide) ?_
    exact W.iret (v := (-1)) hx hb hr (fun t ht hW => ⟨⟨(-1), (), rfl, Or.inl ⟨Or.inr (Or.inr (a_26o)), rfl⟩, ws, tys, htx, by rw [ht]; exact hP, va_K.moved hW.alike hK, hD, Or.inl ⟨Or.inr (Or.inr (a_26o)), X⟩⟩, hS.F ht⟩) hS.2.2 dX8_warm_29
  refine lv_if_ne (tgt := 30) hx hb dX8_warm_25 (by decide) (fun c_29 => ?_) (fun c_29 => absurd c_29 (by decide))
  refine lv_aload_n hx hb dX8_warm_30 rfl (lv_at hl 0 rfl) ?_
  refine lv_dup hx hb dX8_warm_31 rfl ?_
  refine va_get (D := D) (ci := 7) (v := .int (fv 10 a1.toNatClampNeg)) (C := RX7) (T := TX7) (N := 5) hx hb hts hin7 hown hK hP k_11 e_13 rfl 2 (by decide) (hts (.fieldLink RX8 160 "HoneyHouse$Vessel" "heat" "I") (List.mem_of_getElem? (i := 2) rfl)) (fun _ h9 => h9) rfl dX8_warm_32 ?_
  refine lv_iload_n hx hb dX8_warm_35 rfl (lv_at hl 3 rfl) ?_
  refine lv_iadd hx hb dX8_warm_36 ?_
  refine va_put (D := D) (ci := 7) (v := .int ((fv 10 a1.toNatClampNeg) + a2)) (ty := .int) (C := RX7) (T := TX7) (N := 5) hx hb hts hin7 tyX7 tyX7_ok nmX7 hown hK hP hD hS k_11 e_13 rfl 2 (by decide) (hts (.fieldLink RX8 160 "HoneyHouse$Vessel" "heat" "I") (List.mem_of_getElem? (i := 2) rfl)) (fun _ h9 => h9) rfl (tyX7_ok 2 (by decide)) rfl rfl (Nat.le_of_ble_eq_true rfl) dX8_warm_37 (fun H locs hP hD hS => ?_)
  have hP : va_P D vwCl (ws.set k_11 (v_8, .inr (7, [.ref g_12, .int (mall (fv 9) a1.toNatClampNeg 40), .int ((fv 10 a1.toNatClampNeg) + a2), .int (fv 11 a1.toNatClampNeg), .int (fv 12 a1.toNatClampNeg)]))) H := hP
  have hD : va_D A (ws.set k_11 (v_8, .inr (7, [.ref g_12, .int (mall (fv 9) a1.toNatClampNeg 40), .int ((fv 10 a1.toNatClampNeg) + a2), .int (fv 11 a1.toNatClampNeg), .int (fv 12 a1.toNatClampNeg)]))) := hD
  have hm_31 : sm (uy ρ [10000 + 2 * a1.toNatClampNeg, 10001 + 2 * a1.toNatClampNeg]) [7] ws (ws.set k_11 (v_8, .inr (7, [.ref g_12, .int (mall (fv 9) a1.toNatClampNeg 40), .int ((fv 10 a1.toNatClampNeg) + a2), .int (fv 11 a1.toNatClampNeg), .int (fv 12 a1.toNatClampNeg)]))) := sm.flds e_13 (smF.c (smV.rf _) (smF.c (smV.rf _) (smF.c (smV.i _ _) (smF.c (smV.rf _) (smF.c (smV.rf _) (rfl)))))) (List.mem_singleton.mpr rfl) (uy_in wk_14 (List.Mem.head _))
  have e_32 : (ws.set k_11 (v_8, .inr (7, [.ref g_12, .int (mall (fv 9) a1.toNatClampNeg 40), .int ((fv 10 a1.toNatClampNeg) + a2), .int (fv 11 a1.toNatClampNeg), .int (fv 12 a1.toNatClampNeg)])))[k_11]? = some (v_8, .inr (7, [.ref g_12, .int (mall (fv 9) a1.toNatClampNeg 40), .int ((fv 10 a1.toNatClampNeg) + a2), .int (fv 11 a1.toNatClampNeg), .int (fv 12 a1.toNatClampNeg)])) := wset_self e_13
  have e_33 := set_n (z := (v_8, .inr (7, [.ref g_12, .int (mall (fv 9) a1.toNatClampNeg 40), .int ((fv 10 a1.toNatClampNeg) + a2), .int (fv 11 a1.toNatClampNeg), .int (fv 12 a1.toNatClampNeg)]))) e0 (pl_ne e0 e_13 (by intro h9; simp at h9))
  have e_34 := set_n (z := (v_8, .inr (7, [.ref g_12, .int (mall (fv 9) a1.toNatClampNeg 40), .int ((fv 10 a1.toNatClampNeg) + a2), .int (fv 11 a1.toNatClampNeg), .int (fv 12 a1.toNatClampNeg)]))) ela (pl_ne ela e_13 (by intro h9; simp at h9))
  have e_35 := set_n (z := (v_8, .inr (7, [.ref g_12, .int (mall (fv 9) a1.toNatClampNeg 40), .int ((fv 10 a1.toNatClampNeg) + a2), .int (fv 11 a1.toNatClampNeg), .int (fv 12 a1.toNatClampNeg)]))) eta (pl_ne eta e_13 (by intro h9; simp at h9))
  have e_36 := set_n (z := (v_8, .inr (7, [.ref g_12, .int (mall (fv 9) a1.toNatClampNeg 40), .int ((fv 10 a1.toNatClampNeg) + a2), .int (fv 11 a1.toNatClampNeg), .int (fv 12 a1.toNatClampNeg)]))) e_19 (pl_ne e_19 e_13 (by intro h9; simp at h9))
  generalize ws.set k_11 (v_8, .inr (7, [.ref g_12, .int (mall (fv 9) a1.toNatClampNeg 40), .int ((fv 10 a1.toNatClampNeg) + a2), .int (fv 11 a1.toNatClampNeg), .int (fv 12 a1.toNatClampNeg)])) = ws_30 at hP hD hm_31 e_32 e_33 e_34 e_35 e_36
  have hsm := hsm.tr (hm_31.mono (by decide))
  refine lv_aload_n hx hb dX8_warm_40 rfl (lv_at hl 0 rfl) ?_
  refine va_get (D := D) (ci := 7) (v := .int ((fv 10 a1.toNatClampNeg) + a2)) (C := RX7) (T := TX7) (N := 5) hx hb hts hin7 hown hK hP k_11 e_32 rfl 2 (by decide) (hts (.fieldLink RX8 160 "HoneyHouse$Vessel" "heat" "I") (List.mem_of_getElem? (i := 2) rfl)) (fun _ h9 => h9) rfl dX8_warm_41 ?_
  exact W.iret (v := (fv 10 a1.toNatClampNeg) + a2) hx hb hr (fun t ht hW => ⟨⟨(fv 10 a1.toNatClampNeg) + a2, (), rfl, Or.inr ⟨(fun h => Or.elim h (fun h => Or.elim h a_5 b_6) (fun h => Or.elim h c_23 (fun h => Or.elim h a_26 b_27))), rfl⟩, ws_30, tys, htx, by rw [ht]; exact hP, va_K.moved hW.alike hK, hD, Or.inr ⟨(fun h => Or.elim h (fun h => Or.elim h a_5 b_6) (fun h => Or.elim h c_23 (fun h => Or.elim h a_26 b_27))), (xi_v1 (fv' := (wrmF fv a1 a2)) e_33 w0 hle0 hnum ((CL.sm qla hsm htx (fun k _ h1 h2 => uy2 (by omega) (by omega) (by omega))).fvx (fun _ _ _ _ => rfl) rfl rfl rfl) e_35 uta hta0 hta1 qba qra qsn qrd qdr qbl qvd qfb hsm htx (by decide) hj_7 (fun k h1 h2 h3 => uy2 (by omega) (by omega) (by omega)) hg_9 (show VES ρ (wrmF fv a1 a2) ws_30 tys v_8 a1.toNatClampNeg from ⟨k_11, g_12, (ves_wrm e_32), wk_14, ⟨k_15, c9_16, t_17, f_18, e_36, u_20, wr_21, g_22⟩⟩) rfl rfl (fun _ _ _ _ => rfl) (fun r h => upd_n h) (fun _ _ => rfl) (fun _ _ => rfl))⟩⟩, hS.F ht⟩) hS.2.2 dX8_warm_44
theorem i_not40 {a : Int32} {lc : Nat} (hlc : lc ≤ 40) (h : ¬ nI lc ≤ a) : ¬ 40 ≤ a := by
  intro q
  rw [i_le] at h q
  have e : (40 : Int32).toInt = 40 := by decide
  rw [nI_toInt (by omega)] at h
  rw [e] at q
  omega
theorem clamp_ne {a b : Int32} (ha : ¬ a < 0) (hb : ¬ b < 0) (h : ¬ a = b) : a.toNatClampNeg ≠ b.toNatClampNeg := by
  intro q
  rw [i_lt] at ha hb
  have e0 : (0 : Int32).toInt = 0 := by decide
  rw [e0] at ha hb
  have e1 : a.toNatClampNeg = a.toInt.toNat := rfl
  have e2 : b.toNatClampNeg = b.toInt.toNat := rfl
  exact h (Int32.toInt_inj.mp (by omega))
set_option maxHeartbeats 4000000 in
set_option maxRecDepth 100000 in
theorem h_pour (l : Launch) (D : va_G) (ρ : Nat → Nat) (ws : va_W) (tys : List (ClassId × FieldType)) (fv : Nat → Nat → Int32) (h0 lc bc rc fc : Nat) (dn : Int32) (tl : Nat) (a1 a2 a3 : Int32) (sz : Nat) (X : XI ρ fv ws tys h0 lc bc rc fc dn tl) : Met l yX8_pour wsX8_pour ({ frames := 2, cells := 0, slots := 0, locals := 43 }) (va_Pc [.ref h0, .int a1, .int a2, .int a3] (fun U => U.heap.size = sz ∧ va_P D vwCl ws U.heap ∧ va_K D vwCl tys U ∧ va_D (fun _ => True) ws)) (va_Qi (fun (r : Int32) (_ : Unit) => (pouN fv lc a1 a2 a3 ∧ r = if ((a1 < 0 ∨ nI lc ≤ a1) ∨ (a2 < 0 ∨ 9 < a2)) then (-1) else (-2)) ∨ (¬ pouN fv lc a1 a2 a3 ∧ r = fv 4 (7 * a1.toNatClampNeg + 5) - a3)) (fun (_ : Unit) (t : State) => ∃ (ws' : va_W) (tys' : List (ClassId × FieldType)), tyx tys tys' ∧ va_P D vwCl ws' t.heap ∧ va_K D vwCl tys' t ∧ va_D (va_A ws sz) ws' ∧ ((pouN fv lc a1 a2 a3 ∧ XI ρ fv ws' tys' h0 lc bc rc fc dn tl) ∨ (¬ pouN fv lc a1 a2 a3 ∧ XI ρ (pouF fv a1 a2 a3) ws' tys' h0 lc bc rc fc dn tl))) (va_A ws sz)) 0 0 (va_A ws sz) := by
  refine Met.ofW (cc := cX8_pour) (maxL := 6) (ret := (some .int)) (by decide) rfl ?_
  intro p e s m args below meth c s₁ B hml hv
  obtain ⟨rfl, hsz, hP, hK, hD0⟩ := hv
  have hx := B.exec
  have hb := B.bytes
  have hr := B.returns
  have hts := atoms_spec (ws := wsX8_pour) B.pre
  have hown : s.vm.findClass RX8 = some m.cls := findClass_of_methodNamed B.named
  have hlocks := B.notSynchronized
  subst hsz
  have hD := hD0.self (sz := s.heap.size)
  generalize hAe : va_A ws s.heap.size = A at hD ⊢
  have hA : ∀ q : Nat, s.heap.size ≤ q → A q := fun q h => by rw [← hAe]; exact Or.inr h
  have hS : va_S A s.heap s.heap [] := va_S.rf
  have hsm : sm (uy ρ [8 * a1.toNatClampNeg + 1, 10000 + 2 * a2.toNatClampNeg, 10001 + 2 * a2.toNatClampNeg]) [2, 7] ws ws := sm.rf ws
  have htx : tyx tys tys := tyx.rf tys
  have hin2 : ∀ w ∈ u_ws RX2 TX2 10, w ∈ wsX8_pour := (fun _ h9 => List.mem_cons_of_mem _ (List.mem_append_left _ (List.mem_append_left _ ((List.mem_append_right _ h9)))))
  have hl := lv_entry ([.ref h0, .int a1, .int a2, .int a3]) (n := 6) (Nat.le_of_ble_eq_true rfl)
  rw [lg_entry_eq]
  generalize (lg_sl ([.ref h0, .int a1, .int a2, .int a3]) ++ List.replicate (6 - (lg_sl ([.ref h0, .int a1, .int a2, .int a3])).length) Slot.unset).toArray = ls at hl ⊢
  have hl : lv_has ls 6 [(0, .ref h0), (1, .int a1), (2, .int a2), (3, .int a3)] := hl
  obtain ⟨k0, la, ta, ba, ra, sn, rd, dr, bl, vd, fb, e0, w0, hle0, hnum, qla, qta, qba, qra, qsn, qrd, qdr, qbl, qvd, qfb⟩ := id X
  obtain ⟨kla, cla, tla, fla, ela, ula, hla0, hla1⟩ := id qla
  have hlc := hnum.1
  obtain ⟨kta, cta, tta, fta, eta, uta, hta0, hta1⟩ := id qta
  refine lv_aload_n hx hb dX8_pour_0 rfl (lv_at hl 0 rfl) ?_
  refine lv_iload_n hx hb dX8_pour_1 rfl (lv_at hl 1 rfl) ?_
  refine va_csq (W.runV (As := [.int a1]) (rest := []) ⟨hx, hb, hml, hown, hts⟩ (s_X8_lotAt l D ws tys h0 k0 _ la kla cla fla tla a1 e0 rfl ela ula) (cwV 1 hts gX8_pour_X8_lotAt rfl rfl rfl (by decide +kernel) ⟨Nat.le_of_ble_eq_true rfl, Nat.le_of_ble_eq_true rfl⟩) ⟨fun a U g mk q => ⟨q.1, q.2.1, va_K.moved (u := U) (U := U.calling g mk a) (Vm.Alike.refl U.vm) q.2.2⟩, va_recv hK hP (ci := 8) (q0 := k0) rfl e0, fun U hU hW => ⟨rfl, by rw [hU]; exact hP, va_K.moved hW.alike hK⟩⟩ rfl rfl hl.1 rfl (lv_room (Nat.le_of_ble_eq_true rfl)) dX8_pour_2 ⟨Nat.le_of_ble_eq_true rfl, Nat.le_of_ble_eq_true rfl⟩) (fun r_1 k_2 => ?_)
  have hz_3 := lotx hlc hla0 hla1 k_2
  rcases hz_3 with ⟨rfl, o_4⟩ | ⟨a_5, b_6, hj_7, v_8, rfl, hg_9, hL_10⟩
  · refine tp_v (y := .null) rfl ?_
    refine lv_astoreN (lv' := [(4, .null), (0, .ref h0), (1, .int a1), (2, .int a2), (3, .int a3)]) hx hb dX8_pour_5 hl (by decide) rfl (fun ls hl => ?_)
    refine lv_aload_n hx hb dX8_pour_7 rfl (lv_at hl 1 rfl) ?_
    refine lv_iload_n hx hb dX8_pour_8 rfl (lv_at hl 3 rfl) ?_
    refine va_csq (W.runV (As := [.int a2]) (rest := []) ⟨hx, hb, hml, hown, hts⟩ (s_X8_tankAt l D ws tys h0 k0 _ ta kta cta fta tta a2 e0 rfl eta uta) (cwV 1 hts gX8_pour_X8_tankAt rfl rfl rfl (by decide +kernel) ⟨Nat.le_of_ble_eq_true rfl, Nat.le_of_ble_eq_true rfl⟩) ⟨fun a U g mk q => ⟨q.1, q.2.1, va_K.moved (u := U) (U := U.calling g mk a) (Vm.Alike.refl U.vm) q.2.2⟩, va_recv hK hP (ci := 8) (q0 := k0) rfl e0, fun U hU hW => ⟨rfl, by rw [hU]; exact hP, va_K.moved hW.alike hK⟩⟩ rfl rfl hl.1 rfl (lv_room (Nat.le_of_ble_eq_true rfl)) dX8_pour_9 ⟨Nat.le_of_ble_eq_true rfl, Nat.le_of_ble_eq_true rfl⟩) (fun r_54 k_55 => ?_)
    have hz_56 := tankx hta1 k_55
    rcases hz_56 with ⟨rfl, o_57⟩ | ⟨a_58, b_59, hj_60, v_61, rfl, hg_62, hV_63⟩
    · refine tp_v (y := .null) rfl ?_
      refine lv_astoreN (lv' := [(5, .null), (4, .null), (0, .ref h0), (1, .int a1), (2, .int a2), (3, .int a3)]) hx hb dX8_pour_12 hl (by decide) rfl (fun ls hl => ?_)
      refine lv_aloadN hx hb dX8_pour_14 (lv_at hl 1 rfl) ?_
      refine lv_ifnullN (tgt := 24) hx hb dX8_pour_16 (by decide) ?_
      refine lv_iconst (v := (-1)) hx hb dX8_pour_24 (by decide) ?_
      exact W.iret (v := (-1)) hx hb hr (fun t ht hW => ⟨⟨(-1), (), rfl, Or.inl ⟨Or.inl (Or.inl o_4), (if_pos (Or.inl o_4)).symm⟩, ws, tys, htx, by rw [ht]; exact hP, va_K.moved hW.alike hK, hD, Or.inl ⟨Or.inl (Or.inl o_4), X⟩⟩, hS.F ht⟩) hS.2.2 dX8_pour_25
    obtain ⟨k_64, g_65, e_66, wk_67, k_68, c9_69, t_70, f_71, e_72, u_73, wr_74, g_75⟩ := hV_63
    refine tp_v (y := .ref v_61) rfl ?_
    refine lv_astore (lv' := [(5, .ref v_61), (4, .null), (0, .ref h0), (1, .int a1), (2, .int a2), (3, .int a3)]) hx hb dX8_pour_12 hl (by decide) rfl (fun ls hl => ?_)
    refine lv_aloadN hx hb dX8_pour_14 (lv_at hl 1 rfl) ?_
    refine lv_ifnullN (tgt := 24) hx hb dX8_pour_16 (by decide) ?_
    refine lv_iconst (v := (-1)) hx hb dX8_pour_24 (by decide) ?_
    exact W.iret (v := (-1)) hx hb hr (fun t ht hW => ⟨⟨(-1), (), rfl, Or.inl ⟨Or.inl (Or.inl o_4), (if_pos (Or.inl o_4)).symm⟩, ws, tys, htx, by rw [ht]; exact hP, va_K.moved hW.alike hK, hD, Or.inl ⟨Or.inl (Or.inl o_4), X⟩⟩, hS.F ht⟩) hS.2.2 dX8_pour_25
  obtain ⟨k_11, lo_12, hi_13, st_14, e_15, wk_16, ⟨k_22, c9_23, t_24, f_25, e_26, u_27, wr_28, g_29⟩, ⟨k_30, c9_31, t_32, f_33, e_34, u_35, wr_36, g_37⟩, ks_17, ga_18, gb_19, es_20, wks_21, ⟨k_38, c9_39, t_40, f_41, e_42, u_43, wr_44, g_45⟩, ⟨k_46, c9_47, t_48, f_49, e_50, u_51, wr_52, g_53⟩⟩ := hL_10
  refine tp_v (y := .ref v_8) rfl ?_
  refine lv_astore (lv' := [(4, .ref v_8), (0, .ref h0), (1, .int a1), (2, .int a2), (3, .int a3)]) hx hb dX8_pour_5 hl (by decide) rfl (fun ls hl => ?_)
  refine lv_aload_n hx hb dX8_pour_7 rfl (lv_at hl 1 rfl) ?_
  refine lv_iload_n hx hb dX8_pour_8 rfl (lv_at hl 3 rfl) ?_
  refine va_csq (W.runV (As := [.int a2]) (rest := []) ⟨hx, hb, hml, hown, hts⟩ (s_X8_tankAt l D ws tys h0 k0 _ ta kta cta fta tta a2 e0 rfl eta uta) (cwV 1 hts gX8_pour_X8_tankAt rfl rfl rfl (by decide +kernel) ⟨Nat.le_of_ble_eq_true rfl, Nat.le_of_ble_eq_true rfl⟩) ⟨fun a U g mk q => ⟨q.1, q.2.1, va_K.moved (u := U) (U := U.calling g mk a) (Vm.Alike.refl U.vm) q.2.2⟩, va_recv hK hP (ci := 8) (q0 := k0) rfl e0, fun U hU hW => ⟨rfl, by rw [hU]; exact hP, va_K.moved hW.alike hK⟩⟩ rfl rfl hl.1 rfl (lv_room (Nat.le_of_ble_eq_true rfl)) dX8_pour_9 ⟨Nat.le_of_ble_eq_true rfl, Nat.le_of_ble_eq_true rfl⟩) (fun r_76 k_77 => ?_)
  have hz_78 := tankx hta1 k_77
  rcases hz_78 with ⟨rfl, o_79⟩ | ⟨a_80, b_81, hj_82, v_83, rfl, hg_84, hV_85⟩
  · refine tp_v (y := .null) rfl ?_
    refine lv_astoreN (lv' := [(5, .null), (4, .ref v_8), (0, .ref h0), (1, .int a1), (2, .int a2), (3, .int a3)]) hx hb dX8_pour_12 hl (by decide) rfl (fun ls hl => ?_)
    refine lv_aload hx hb dX8_pour_14 (lv_at hl 1 rfl) ?_
    refine lv_ifnull hx hb dX8_pour_16 ?_
    refine lv_aloadN hx hb dX8_pour_19 (lv_at hl 0 rfl) ?_
    refine lv_ifnonnullN hx hb dX8_pour_21 ?_
    refine lv_iconst (v := (-1)) hx hb dX8_pour_24 (by decide) ?_
    exact W.iret (v := (-1)) hx hb hr (fun t ht hW => ⟨⟨(-1), (), rfl, Or.inl ⟨Or.inl (Or.inr o_79), (if_pos (Or.inr o_79)).symm⟩, ws, tys, htx, by rw [ht]; exact hP, va_K.moved hW.alike hK, hD, Or.inl ⟨Or.inl (Or.inr o_79), X⟩⟩, hS.F ht⟩) hS.2.2 dX8_pour_25
  obtain ⟨k_86, g_87, e_88, wk_89, k_90, c9_91, t_92, f_93, e_94, u_95, wr_96, g_97⟩ := hV_85
  refine tp_v (y := .ref v_83) rfl ?_
  refine lv_astore (lv' := [(5, .ref v_83), (4, .ref v_8), (0, .ref h0), (1, .int a1), (2, .int a2), (3, .int a3)]) hx hb dX8_pour_12 hl (by decide) rfl (fun ls hl => ?_)
  refine lv_aload hx hb dX8_pour_14 (lv_at hl 1 rfl) ?_
  refine lv_ifnull hx hb dX8_pour_16 ?_
  refine lv_aload hx hb dX8_pour_19 (lv_at hl 0 rfl) ?_
  refine lv_ifnonnull (tgt := 26) hx hb dX8_pour_21 (by decide) ?_
  refine lv_iload_n hx hb dX8_pour_26 rfl (lv_at hl 5 rfl) ?_
  refine lv_iconst (v := 1) hx hb dX8_pour_27 (by decide) ?_
  refine lv_aload hx hb dX8_pour_28 (lv_at hl 1 rfl) ?_
  refine va_get (D := D) (ci := 2) (v := .int (fv 4 (7 * a1.toNatClampNeg + 5))) (C := RX2) (T := TX2) (N := 10) hx hb hts hin2 hown hK hP k_11 e_15 rfl 8 (by decide) (hts (.fieldLink RX8 136 "HoneyHouse$Lot" "left" "I") (List.mem_of_getElem? (i := 1) rfl)) (fun _ h9 => h9) rfl dX8_pour_30 ?_
  refine vp_callSi (W.runS (As := [.int a3, .int 1, .int (fv 4 (7 * a1.toNatClampNeg + 5))]) (rest := []) ⟨hx, hb, hml, hown, hts⟩ (s_X8_isIn l a3 1 (fv 4 (7 * a1.toNatClampNeg + 5))) (va_cwS 3 hts gX8_pour_X8_isIn rfl rfl rfl (by decide +kernel) ⟨Nat.le_of_ble_eq_true rfl, Nat.le_of_ble_eq_true rfl⟩) ⟨fun a U g mk q => q, fun U hU hW => ⟨rfl, trivial⟩⟩ rfl rfl hl.1 rfl (lv_room (Nat.le_of_ble_eq_true rfl)) dX8_pour_33 ⟨Nat.le_of_ble_eq_true rfl, Nat.le_of_ble_eq_true rfl⟩) (fun r_98 k_99 => ?_)
  rcases k_99 with ⟨rfl, a_100o⟩ | ⟨rfl, a_100, b_101⟩
  · refine lv_if_eq (tgt := 48) hx hb dX8_pour_36 (by decide) (fun c_102 => ?_) (fun c_102 => absurd (by decide) c_102)
    refine lv_bipush (v := (-2)) hx hb dX8_pour_48 (by decide) ?_
    exact W.iret (v := (-2)) hx hb hr (fun t ht hW => ⟨⟨(-2), (), rfl, Or.inl ⟨Or.inr (Or.inl a_100o), (if_neg (fun h => Or.elim h (fun h => Or.elim h a_5 b_6) (fun h => Or.elim h a_80 b_81))).symm⟩, ws, tys, htx, by rw [ht]; exact hP, va_K.moved hW.alike hK, hD, Or.inl ⟨Or.inr (Or.inl a_100o), X⟩⟩, hS.F ht⟩) hS.2.2 dX8_pour_50
  refine lv_if_eq (tgt := 48) hx hb dX8_pour_36 (by decide) (fun c_103 => absurd c_103 (by decide)) (fun c_103 => ?_)
  refine lv_aload hx hb dX8_pour_39 (lv_at hl 0 rfl) ?_
  refine lv_iload_n hx hb dX8_pour_41 rfl (lv_at hl 5 rfl) ?_
  refine vp_callSi (W.runV (As := [.int a3]) (rest := []) ⟨hx, hb, hml, hown, hts⟩ (s_hasRoomFor l D ws tys v_83 k_86 (mall (fv 9) a2.toNatClampNeg 40) (fv 10 a2.toNatClampNeg) (fv 11 a2.toNatClampNeg) (fv 12 a2.toNatClampNeg) g_87 k_90 c9_91 t_92 f_93 a3 e_88 e_94 u_95) (cwV 1 hts gX8_pour_X7_hasRoomFor rfl rfl rfl (by decide +kernel) ⟨Nat.le_of_ble_eq_true rfl, Nat.le_of_ble_eq_true rfl⟩) ⟨fun a U g mk q => ⟨q.1, q.2.1, va_K.moved (u := U) (U := U.calling g mk a) (Vm.Alike.refl U.vm) q.2.2⟩, va_recv hK hP (ci := 7) (q0 := k_86) rfl e_88, fun U hU hW => ⟨rfl, by rw [hU]; exact hP, va_K.moved hW.alike hK⟩⟩ rfl rfl hl.1 rfl (lv_room (Nat.le_of_ble_eq_true rfl)) dX8_pour_42 ⟨Nat.le_of_ble_eq_true rfl, Nat.le_of_ble_eq_true rfl⟩) (fun r_104 k_105 => ?_)
  rcases k_105 with ⟨rfl, rm_106⟩ | ⟨rfl, rm_106⟩
  · refine lv_if_ne (tgt := 51) hx hb dX8_pour_45 (by decide) (fun c_107 => absurd (by decide) c_107) (fun c_107 => ?_)
    refine lv_bipush (v := (-2)) hx hb dX8_pour_48 (by decide) ?_
    exact W.iret (v := (-2)) hx hb hr (fun t ht hW => ⟨⟨(-2), (), rfl, Or.inl ⟨Or.inr (Or.inr (rm_106)), (if_neg (fun h => Or.elim h (fun h => Or.elim h a_5 b_6) (fun h => Or.elim h a_80 b_81))).symm⟩, ws, tys, htx, by rw [ht]; exact hP, va_K.moved hW.alike hK, hD, Or.inl ⟨Or.inr (Or.inr (rm_106)), X⟩⟩, hS.F ht⟩) hS.2.2 dX8_pour_50
  refine lv_if_ne (tgt := 51) hx hb dX8_pour_45 (by decide) (fun c_108 => ?_) (fun c_108 => absurd c_108 (by decide))
  refine lv_aload hx hb dX8_pour_51 (lv_at hl 1 rfl) ?_
  refine lv_dup hx hb dX8_pour_53 rfl ?_
  refine va_get (D := D) (ci := 2) (v := .int (fv 4 (7 * a1.toNatClampNeg + 5))) (C := RX2) (T := TX2) (N := 10) hx hb hts hin2 hown hK hP k_11 e_15 rfl 8 (by decide) (hts (.fieldLink RX8 136 "HoneyHouse$Lot" "left" "I") (List.mem_of_getElem? (i := 1) rfl)) (fun _ h9 => h9) rfl dX8_pour_54 ?_
  refine lv_iload_n hx hb dX8_pour_57 rfl (lv_at hl 5 rfl) ?_
  refine lv_isub hx hb dX8_pour_58 ?_
  refine va_put (D := D) (ci := 2) (v := .int ((fv 4 (7 * a1.toNatClampNeg + 5)) - a3)) (ty := .int) (C := RX2) (T := TX2) (N := 10) hx hb hts hin2 tyX2 tyX2_ok nmX2 hown hK hP hD hS k_11 e_15 rfl 8 (by decide) (hts (.fieldLink RX8 136 "HoneyHouse$Lot" "left" "I") (List.mem_of_getElem? (i := 1) rfl)) (fun _ h9 => h9) rfl (tyX2_ok 8 (by decide)) rfl rfl (Nat.le_of_ble_eq_true rfl) dX8_pour_59 (fun H locs hP hD hS => ?_)
  have hP : va_P D vwCl (ws.set k_11 (v_8, .inr (2, [.int (fv 4 (7 * a1.toNatClampNeg)), .int (fv 4 (7 * a1.toNatClampNeg + 1)), .int (fv 4 (7 * a1.toNatClampNeg + 3)), .int (fv 4 (7 * a1.toNatClampNeg + 4)), .ref lo_12, .ref hi_13, .ref st_14, .int (fv 4 (7 * a1.toNatClampNeg + 2)), .int ((fv 4 (7 * a1.toNatClampNeg + 5)) - a3), .int (fv 4 (7 * a1.toNatClampNeg + 6))]))) H := hP
  have hD : va_D A (ws.set k_11 (v_8, .inr (2, [.int (fv 4 (7 * a1.toNatClampNeg)), .int (fv 4 (7 * a1.toNatClampNeg + 1)), .int (fv 4 (7 * a1.toNatClampNeg + 3)), .int (fv 4 (7 * a1.toNatClampNeg + 4)), .ref lo_12, .ref hi_13, .ref st_14, .int (fv 4 (7 * a1.toNatClampNeg + 2)), .int ((fv 4 (7 * a1.toNatClampNeg + 5)) - a3), .int (fv 4 (7 * a1.toNatClampNeg + 6))]))) := hD
  have hm_110 : sm (uy ρ [8 * a1.toNatClampNeg + 1, 10000 + 2 * a2.toNatClampNeg, 10001 + 2 * a2.toNatClampNeg]) [2] ws (ws.set k_11 (v_8, .inr (2, [.int (fv 4 (7 * a1.toNatClampNeg)), .int (fv 4 (7 * a1.toNatClampNeg + 1)), .int (fv 4 (7 * a1.toNatClampNeg + 3)), .int (fv 4 (7 * a1.toNatClampNeg + 4)), .ref lo_12, .ref hi_13, .ref st_14, .int (fv 4 (7 * a1.toNatClampNeg + 2)), .int ((fv 4 (7 * a1.toNatClampNeg + 5)) - a3), .int (fv 4 (7 * a1.toNatClampNeg + 6))]))) := sm.flds e_15 (smF.c (smV.rf _) (smF.c (smV.rf _) (smF.c (smV.rf _) (smF.c (smV.rf _) (smF.c (smV.rf _) (smF.c (smV.rf _) (smF.c (smV.rf _) (smF.c (smV.rf _) (smF.c (smV.i _ _) (smF.c (smV.rf _) (rfl))))))))))) (List.mem_singleton.mpr rfl) (uy_in wk_16 (List.Mem.head _))
  have e_111 : (ws.set k_11 (v_8, .inr (2, [.int (fv 4 (7 * a1.toNatClampNeg)), .int (fv 4 (7 * a1.toNatClampNeg + 1)), .int (fv 4 (7 * a1.toNatClampNeg + 3)), .int (fv 4 (7 * a1.toNatClampNeg + 4)), .ref lo_12, .ref hi_13, .ref st_14, .int (fv 4 (7 * a1.toNatClampNeg + 2)), .int ((fv 4 (7 * a1.toNatClampNeg + 5)) - a3), .int (fv 4 (7 * a1.toNatClampNeg + 6))])))[k_11]? = some (v_8, .inr (2, [.int (fv 4 (7 * a1.toNatClampNeg)), .int (fv 4 (7 * a1.toNatClampNeg + 1)), .int (fv 4 (7 * a1.toNatClampNeg + 3)), .int (fv 4 (7 * a1.toNatClampNeg + 4)), .ref lo_12, .ref hi_13, .ref st_14, .int (fv 4 (7 * a1.toNatClampNeg + 2)), .int ((fv 4 (7 * a1.toNatClampNeg + 5)) - a3), .int (fv 4 (7 * a1.toNatClampNeg + 6))])) := wset_self e_15
  have e_112 := set_n (z := (v_8, .inr (2, [.int (fv 4 (7 * a1.toNatClampNeg)), .int (fv 4 (7 * a1.toNatClampNeg + 1)), .int (fv 4 (7 * a1.toNatClampNeg + 3)), .int (fv 4 (7 * a1.toNatClampNeg + 4)), .ref lo_12, .ref hi_13, .ref st_14, .int (fv 4 (7 * a1.toNatClampNeg + 2)), .int ((fv 4 (7 * a1.toNatClampNeg + 5)) - a3), .int (fv 4 (7 * a1.toNatClampNeg + 6))]))) e0 (pl_ne e0 e_15 (by intro h9; simp at h9))
  have e_113 := set_n (z := (v_8, .inr (2, [.int (fv 4 (7 * a1.toNatClampNeg)), .int (fv 4 (7 * a1.toNatClampNeg + 1)), .int (fv 4 (7 * a1.toNatClampNeg + 3)), .int (fv 4 (7 * a1.toNatClampNeg + 4)), .ref lo_12, .ref hi_13, .ref st_14, .int (fv 4 (7 * a1.toNatClampNeg + 2)), .int ((fv 4 (7 * a1.toNatClampNeg + 5)) - a3), .int (fv 4 (7 * a1.toNatClampNeg + 6))]))) ela (pl_ne ela e_15 (by intro h9; simp at h9))
  have e_114 := set_n (z := (v_8, .inr (2, [.int (fv 4 (7 * a1.toNatClampNeg)), .int (fv 4 (7 * a1.toNatClampNeg + 1)), .int (fv 4 (7 * a1.toNatClampNeg + 3)), .int (fv 4 (7 * a1.toNatClampNeg + 4)), .ref lo_12, .ref hi_13, .ref st_14, .int (fv 4 (7 * a1.toNatClampNeg + 2)), .int ((fv 4 (7 * a1.toNatClampNeg + 5)) - a3), .int (fv 4 (7 * a1.toNatClampNeg + 6))]))) eta (pl_ne eta e_15 (by intro h9; simp at h9))
  have e_115 := set_n (z := (v_8, .inr (2, [.int (fv 4 (7 * a1.toNatClampNeg)), .int (fv 4 (7 * a1.toNatClampNeg + 1)), .int (fv 4 (7 * a1.toNatClampNeg + 3)), .int (fv 4 (7 * a1.toNatClampNeg + 4)), .ref lo_12, .ref hi_13, .ref st_14, .int (fv 4 (7 * a1.toNatClampNeg + 2)), .int ((fv 4 (7 * a1.toNatClampNeg + 5)) - a3), .int (fv 4 (7 * a1.toNatClampNeg + 6))]))) e_26 (pl_ne e_26 e_15 (by intro h9; simp at h9))
  have e_116 := set_n (z := (v_8, .inr (2, [.int (fv 4 (7 * a1.toNatClampNeg)), .int (fv 4 (7 * a1.toNatClampNeg + 1)), .int (fv 4 (7 * a1.toNatClampNeg + 3)), .int (fv 4 (7 * a1.toNatClampNeg + 4)), .ref lo_12, .ref hi_13, .ref st_14, .int (fv 4 (7 * a1.toNatClampNeg + 2)), .int ((fv 4 (7 * a1.toNatClampNeg + 5)) - a3), .int (fv 4 (7 * a1.toNatClampNeg + 6))]))) e_34 (pl_ne e_34 e_15 (by intro h9; simp at h9))
  have e_117 := set_n (z := (v_8, .inr (2, [.int (fv 4 (7 * a1.toNatClampNeg)), .int (fv 4 (7 * a1.toNatClampNeg + 1)), .int (fv 4 (7 * a1.toNatClampNeg + 3)), .int (fv 4 (7 * a1.toNatClampNeg + 4)), .ref lo_12, .ref hi_13, .ref st_14, .int (fv 4 (7 * a1.toNatClampNeg + 2)), .int ((fv 4 (7 * a1.toNatClampNeg + 5)) - a3), .int (fv 4 (7 * a1.toNatClampNeg + 6))]))) es_20 (pl_ne es_20 e_15 (by intro h9; simp at h9))
  have e_118 := set_n (z := (v_8, .inr (2, [.int (fv 4 (7 * a1.toNatClampNeg)), .int (fv 4 (7 * a1.toNatClampNeg + 1)), .int (fv 4 (7 * a1.toNatClampNeg + 3)), .int (fv 4 (7 * a1.toNatClampNeg + 4)), .ref lo_12, .ref hi_13, .ref st_14, .int (fv 4 (7 * a1.toNatClampNeg + 2)), .int ((fv 4 (7 * a1.toNatClampNeg + 5)) - a3), .int (fv 4 (7 * a1.toNatClampNeg + 6))]))) e_42 (pl_ne e_42 e_15 (by intro h9; simp at h9))
  have e_119 := set_n (z := (v_8, .inr (2, [.int (fv 4 (7 * a1.toNatClampNeg)), .int (fv 4 (7 * a1.toNatClampNeg + 1)), .int (fv 4 (7 * a1.toNatClampNeg + 3)), .int (fv 4 (7 * a1.toNatClampNeg + 4)), .ref lo_12, .ref hi_13, .ref st_14, .int (fv 4 (7 * a1.toNatClampNeg + 2)), .int ((fv 4 (7 * a1.toNatClampNeg + 5)) - a3), .int (fv 4 (7 * a1.toNatClampNeg + 6))]))) e_50 (pl_ne e_50 e_15 (by intro h9; simp at h9))
  have e_120 := set_n (z := (v_8, .inr (2, [.int (fv 4 (7 * a1.toNatClampNeg)), .int (fv 4 (7 * a1.toNatClampNeg + 1)), .int (fv 4 (7 * a1.toNatClampNeg + 3)), .int (fv 4 (7 * a1.toNatClampNeg + 4)), .ref lo_12, .ref hi_13, .ref st_14, .int (fv 4 (7 * a1.toNatClampNeg + 2)), .int ((fv 4 (7 * a1.toNatClampNeg + 5)) - a3), .int (fv 4 (7 * a1.toNatClampNeg + 6))]))) e_88 (pl_ne e_88 e_15 (by intro h9; simp at h9))
  have e_121 := set_n (z := (v_8, .inr (2, [.int (fv 4 (7 * a1.toNatClampNeg)), .int (fv 4 (7 * a1.toNatClampNeg + 1)), .int (fv 4 (7 * a1.toNatClampNeg + 3)), .int (fv 4 (7 * a1.toNatClampNeg + 4)), .ref lo_12, .ref hi_13, .ref st_14, .int (fv 4 (7 * a1.toNatClampNeg + 2)), .int ((fv 4 (7 * a1.toNatClampNeg + 5)) - a3), .int (fv 4 (7 * a1.toNatClampNeg + 6))]))) e_94 (pl_ne e_94 e_15 (by intro h9; simp at h9))
  generalize ws.set k_11 (v_8, .inr (2, [.int (fv 4 (7 * a1.toNatClampNeg)), .int (fv 4 (7 * a1.toNatClampNeg + 1)), .int (fv 4 (7 * a1.toNatClampNeg + 3)), .int (fv 4 (7 * a1.toNatClampNeg + 4)), .ref lo_12, .ref hi_13, .ref st_14, .int (fv 4 (7 * a1.toNatClampNeg + 2)), .int ((fv 4 (7 * a1.toNatClampNeg + 5)) - a3), .int (fv 4 (7 * a1.toNatClampNeg + 6))])) = ws_109 at hP hD hm_110 e_111 e_112 e_113 e_114 e_115 e_116 e_117 e_118 e_119 e_120 e_121
  have hsm := hsm.tr (hm_110.mono (by decide))
  refine lv_aload hx hb dX8_pour_62 (lv_at hl 0 rfl) ?_
  refine lv_iload_n hx hb dX8_pour_64 rfl (lv_at hl 3 rfl) ?_
  refine lv_iload_n hx hb dX8_pour_65 rfl (lv_at hl 5 rfl) ?_
  have hFc := free_all hD hS hA
  refine va_callv (va_runV (As := [.int a1, .int a3]) (rest := []) ⟨hx, hb, hml, hown, hts⟩ (a_addGrams l D (rz [k_90, k_86]) ws_109 tys v_83 k_86 (mall (fv 9) a2.toNatClampNeg 40) (fv 10 a2.toNatClampNeg) (fv 11 a2.toNatClampNeg) (fv 12 a2.toNatClampNeg) g_87 k_90 c9_91 t_92 f_93 a1 a3 H.size a_5 (i_not40 hlc b_6) e_120 e_121 u_95 (rz_in (by simp)) (rz_in (by simp))) (cwV 2 hts gX8_pour_X7_addGrams rfl rfl rfl (by decide +kernel) ⟨Nat.le_of_ble_eq_true rfl, Nat.le_of_ble_eq_true rfl⟩) ⟨fun a U g mk q => by obtain ⟨q0, q1, qP, qK, qD⟩ := q; exact ⟨q0, q1, qP, va_K.moved (u := U) (U := U.calling g mk a) (Vm.Alike.refl U.vm) qK, qD⟩, va_recv hK hP (ci := 7) (q0 := k_86) rfl e_120, fun U hU hW => ⟨rfl, by rw [hU], by rw [hU]; exact hP, va_K.moved hW.alike hK, hD.weaken (fun _ _ _ _ => trivial)⟩⟩ rfl rfl hl.1 rfl (lv_room (Nat.le_of_ble_eq_true rfl)) dX8_pour_66 ⟨Nat.le_of_ble_eq_true rfl, Nat.le_of_ble_eq_true rfl⟩) hS (fun q _ h => hFc q h) hFc (fun u t H1 locs ht hvm w_122 hB hz1 hk1 hS => ?_)
  obtain ⟨ws_123, ty_124, hm_125, ht_127, hP1, hK1, hD1, hx_126⟩ := hB
  rw [ht] at hP1
  have hK := va_K.moved hvm.symm hK1
  have hD := hD1.weaken (fun _ _ _ h => hFc _ h)
  generalize H1 = H at hP1 hS ⊢
  have hP := hP1
  have e_128 := hm_125.keep (rz_o2 (pl_ne e_112 e_121 (by intro h9; simp at h9)) (pl_ne e_112 e_120 (by intro h9; simp at h9))) e_112
  have e_129 := hm_125.keep (rz_o2 (pl_ne e_113 e_121 (by intro h9; simp at h9)) (pl_ne e_113 e_120 (by intro h9; simp at h9))) e_113
  have e_130 := hm_125.keep (rz_o2 (pl_ne e_114 e_121 (by intro h9; simp at h9)) (pl_ne e_114 e_120 (by intro h9; simp at h9))) e_114
  have e_131 := hm_125.keep (rz_o2 (pl_ne e_111 e_121 (by intro h9; simp at h9)) (pl_ne e_111 e_120 (by intro h9; simp at h9))) e_111
  have e_132 := hm_125.keep (rz_o2 (pl_ne e_115 e_121 (by intro h9; simp at h9)) (pl_ne e_115 e_120 (by intro h9; simp at h9))) e_115
  have e_133 := hm_125.keep (rz_o2 (pl_ne e_116 e_121 (by intro h9; simp at h9)) (pl_ne e_116 e_120 (by intro h9; simp at h9))) e_116
  have e_134 := hm_125.keep (rz_o2 (pl_ne e_117 e_121 (by intro h9; simp at h9)) (pl_ne e_117 e_120 (by intro h9; simp at h9))) e_117
  have e_135 := hm_125.keep (rz_o2 (pl_ne e_118 e_121 (by intro h9; simp at h9)) (pl_ne e_118 e_120 (by intro h9; simp at h9))) e_118
  have e_136 := hm_125.keep (rz_o2 (pl_ne e_119 e_121 (by intro h9; simp at h9)) (pl_ne e_119 e_120 (by intro h9; simp at h9))) e_119
  have u_137 := ht_127 _ _ ula
  have u_138 := ht_127 _ _ uta
  have u_139 := ht_127 _ _ u_27
  have u_140 := ht_127 _ _ u_35
  have u_141 := ht_127 _ _ u_43
  have u_142 := ht_127 _ _ u_51
  have u_143 := ht_127 _ _ u_95
  have hm_144 : sm (uy ρ [8 * a1.toNatClampNeg + 1, 10000 + 2 * a2.toNatClampNeg, 10001 + 2 * a2.toNatClampNeg]) [7] ws_109 ws_123 := hm_125.up (fun k _ h => rz_u2 (uy_in wr_96 (List.Mem.tail _ (List.Mem.tail _ (List.Mem.head _)))) (uy_in wk_89 (List.Mem.tail _ (List.Mem.head _))) k h)
  have hsm := hsm.tr (hm_144.mono (by decide))
  have htx := htx.tr ht_127
  obtain ⟨e_145, f_146, e_147, hf_148⟩ := hx_126
  refine lv_aload hx hb dX8_pour_69 (lv_at hl 1 rfl) ?_
  refine va_get (D := D) (ci := 2) (v := .int ((fv 4 (7 * a1.toNatClampNeg + 5)) - a3)) (C := RX2) (T := TX2) (N := 10) hx hb hts hin2 hown hK hP k_11 e_131 rfl 8 (by decide) (hts (.fieldLink RX8 136 "HoneyHouse$Lot" "left" "I") (List.mem_of_getElem? (i := 1) rfl)) (fun _ h9 => h9) rfl dX8_pour_71 ?_
  have hj40 : a1.toNatClampNeg < 40 := by omega
  exact W.iret (v := (fv 4 (7 * a1.toNatClampNeg + 5)) - a3) hx hb hr (fun t ht hW => ⟨⟨(fv 4 (7 * a1.toNatClampNeg + 5)) - a3, (), rfl, Or.inr ⟨(fun h => Or.elim h (fun h => Or.elim h (fun h => Or.elim h a_5 b_6) (fun h => Or.elim h a_80 b_81)) (fun h => Or.elim h (fun h => Or.elim h a_100 b_101) rm_106)), rfl⟩, ws_123, ty_124, htx, by rw [ht]; exact hP, va_K.moved hW.alike hK, hD, Or.inr ⟨(fun h => Or.elim h (fun h => Or.elim h (fun h => Or.elim h a_5 b_6) (fun h => Or.elim h a_80 b_81)) (fun h => Or.elim h (fun h => Or.elim h a_100 b_101) rm_106)), (xi_v1 (fv' := (pouF fv a1 a2 a3)) e_128 w0 hle0 hnum ⟨kla, cla, tla, fla, e_129, u_137, hla0, lots_one (J := a1.toNatClampNeg) hla1 hsm htx (fun k h1 h2 h3 => uy3 h1 (by omega) (by omega) (by omega)) hg_9 (show LOT ρ (pouF fv a1 a2 a3) ws_123 ty_124 v_8 a1.toNatClampNeg from ⟨k_11, lo_12, hi_13, st_14, (lot_pou e_131), wk_16, ⟨k_22, c9_23, t_24, f_25, e_132, u_139, wr_28, g_29⟩, ⟨k_30, c9_31, t_32, f_33, e_133, u_140, wr_36, g_37⟩, ks_17, ga_18, gb_19, e_134, wks_21, ⟨k_38, c9_39, t_40, f_41, e_135, u_141, wr_44, g_45⟩, ⟨k_46, c9_47, t_48, f_49, e_136, u_142, wr_52, g_53⟩⟩) (fun j hj => ⟨fun i hi => upd_n (by omega), fun _ _ => rfl, fun _ _ => rfl, fun _ _ => rfl⟩)⟩ e_130 u_138 hta0 hta1 qba qra qsn qrd qdr qbl qvd qfb hsm htx (by decide) hj_82 (fun k h1 h2 h3 => uy3 (by omega) (by omega) (by omega) (by omega)) hg_84 (show VES ρ (pouF fv a1 a2 a3) ws_123 ty_124 v_83 a2.toNatClampNeg from ⟨k_86, g_87, (ves_pou hj40 e_145), wk_89, ⟨k_90, c9_91, t_92, f_146, e_147, u_143, wr_96, (by rw [hf_148]; exact row_pou g_97 hj40)⟩⟩) rfl rfl (fun r i h hi => upd_n (by omega)) (fun _ _ => rfl) (fun _ _ => rfl) (fun _ _ => rfl))⟩⟩, hS.F ht⟩) hS.2.2 dX8_pour_74
set_option maxHeartbeats 4000000 in
set_option maxRecDepth 100000 in
theorem h_spill (l : Launch) (D : va_G) (ρ : Nat → Nat) (ws : va_W) (tys : List (ClassId × FieldType)) (fv : Nat → Nat → Int32) (h0 lc bc rc fc : Nat) (dn : Int32) (tl : Nat) (a1 a2 : Int32) (sz : Nat) (X : XI ρ fv ws tys h0 lc bc rc fc dn tl) (V : NV fv lc) : Met l yX8_spill wsX8_spill ({ frames := 3, cells := 0, slots := 0, locals := 72 }) (va_Pc [.ref h0, .int a1, .int a2] (fun U => U.heap.size = sz ∧ va_P D vwCl ws U.heap ∧ va_K D vwCl tys U ∧ va_D (fun _ => True) ws)) (va_Qi (fun (r : Int32) (_ : Unit) => (spiN fv a1 a2 ∧ r = if (a1 < 0 ∨ 9 < a1) then (-1) else (-2)) ∨ (¬ spiN fv a1 a2 ∧ r = drA (fv 9) a1.toNatClampNeg a2)) (fun (_ : Unit) (t : State) => ∃ (ws' : va_W) (tys' : List (ClassId × FieldType)), tyx tys tys' ∧ va_P D vwCl ws' t.heap ∧ va_K D vwCl tys' t ∧ va_D (va_A ws sz) ws' ∧ ((spiN fv a1 a2 ∧ XI ρ fv ws' tys' h0 lc bc rc fc dn tl) ∨ (¬ spiN fv a1 a2 ∧ XI ρ (spiF fv a1 a2) ws' tys' h0 lc bc rc fc dn tl))) (va_A ws sz)) 0 0 (va_A ws sz) := by
  refine Met.ofW (cc := cX8_spill) (maxL := 4) (ret := (some .int)) (by decide) rfl ?_
  intro p e s m args below meth c s₁ B hml hv
  obtain ⟨rfl, hsz, hP, hK, hD0⟩ := hv
  have hx := B.exec
  have hb := B.bytes
  have hr := B.returns
  have hts := atoms_spec (ws := wsX8_spill) B.pre
  have hown : s.vm.findClass RX8 = some m.cls := findClass_of_methodNamed B.named
  have hlocks := B.notSynchronized
  subst hsz
  have hD := hD0.self (sz := s.heap.size)
  generalize hAe : va_A ws s.heap.size = A at hD ⊢
  have hA : ∀ q : Nat, s.heap.size ≤ q → A q := fun q h => by rw [← hAe]; exact Or.inr h
  have hS : va_S A s.heap s.heap [] := va_S.rf
  have hsm : sm (uy ρ [10000 + 2 * a1.toNatClampNeg, 10001 + 2 * a1.toNatClampNeg]) [7] ws ws := sm.rf ws
  have htx : tyx tys tys := tyx.rf tys
  have hin7 : ∀ w ∈ u_ws RX7 TX7 5, w ∈ wsX8_spill := (fun _ h9 => List.mem_cons_of_mem _ (List.mem_append_left _ (List.mem_append_left _ ((List.mem_append_right _ h9)))))
  have hin8 : ∀ w ∈ u_ws RX8 TX8 15, w ∈ wsX8_spill := (fun _ h9 => List.mem_cons_of_mem _ (List.mem_append_left _ ((List.mem_append_right _ h9))))
  have hl := lv_entry ([.ref h0, .int a1, .int a2]) (n := 4) (Nat.le_of_ble_eq_true rfl)
  rw [lg_entry_eq]
  generalize (lg_sl ([.ref h0, .int a1, .int a2]) ++ List.replicate (4 - (lg_sl ([.ref h0, .int a1, .int a2])).length) Slot.unset).toArray = ls at hl ⊢
  have hl : lv_has ls 4 [(0, .ref h0), (1, .int a1), (2, .int a2)] := hl
  obtain ⟨k0, la, ta, ba, ra, sn, rd, dr, bl, vd, fb, e0, w0, hle0, hnum, qla, qta, qba, qra, qsn, qrd, qdr, qbl, qvd, qfb⟩ := id X
  obtain ⟨kla, cla, tla, fla, ela, ula, hla0, hla1⟩ := id qla
  have hlc := hnum.1
  obtain ⟨kta, cta, tta, fta, eta, uta, hta0, hta1⟩ := id qta
  obtain ⟨kdr, dg, dq, edr, ⟨kdg, cdg, tdg, fdg, edg, udg, wdg⟩, ⟨kdq, cdq, tdq, fdq, edq, udq, wdq⟩⟩ := id qdr
  refine lv_aload_n hx hb dX8_spill_0 rfl (lv_at hl 0 rfl) ?_
  refine lv_iload_n hx hb dX8_spill_1 rfl (lv_at hl 1 rfl) ?_
  refine va_csq (W.runV (As := [.int a1]) (rest := []) ⟨hx, hb, hml, hown, hts⟩ (s_X8_tankAt l D ws tys h0 k0 _ ta kta cta fta tta a1 e0 rfl eta uta) (cwV 1 hts gX8_spill_X8_tankAt rfl rfl rfl (by decide +kernel) ⟨Nat.le_of_ble_eq_true rfl, Nat.le_of_ble_eq_true rfl⟩) ⟨fun a U g mk q => ⟨q.1, q.2.1, va_K.moved (u := U) (U := U.calling g mk a) (Vm.Alike.refl U.vm) q.2.2⟩, va_recv hK hP (ci := 8) (q0 := k0) rfl e0, fun U hU hW => ⟨rfl, by rw [hU]; exact hP, va_K.moved hW.alike hK⟩⟩ rfl rfl hl.1 rfl (lv_room (Nat.le_of_ble_eq_true rfl)) dX8_spill_2 ⟨Nat.le_of_ble_eq_true rfl, Nat.le_of_ble_eq_true rfl⟩) (fun r_1 k_2 => ?_)
  have hz_3 := tankx hta1 k_2
  rcases hz_3 with ⟨rfl, o_4⟩ | ⟨a_5, b_6, hj_7, v_8, rfl, hg_9, hV_10⟩
  · refine tp_v (y := .null) rfl ?_
    refine lv_astore_nN (lv' := [(3, .null), (0, .ref h0), (1, .int a1), (2, .int a2)]) hx hb dX8_spill_5 rfl hl (by decide) rfl (fun ls hl => ?_)
    refine lv_aload_nN hx hb dX8_spill_6 rfl (lv_at hl 0 rfl) ?_
    refine lv_ifnonnullN hx hb dX8_spill_7 ?_
    refine lv_iconst (v := (-1)) hx hb dX8_spill_10 (by decide) ?_
    exact W.iret (v := (-1)) hx hb hr (fun t ht hW => ⟨⟨(-1), (), rfl, Or.inl ⟨Or.inl o_4, (if_pos o_4).symm⟩, ws, tys, htx, by rw [ht]; exact hP, va_K.moved hW.alike hK, hD, Or.inl ⟨Or.inl o_4, X⟩⟩, hS.F ht⟩) hS.2.2 dX8_spill_11
  obtain ⟨k_11, g_12, e_13, wk_14, k_15, c9_16, t_17, f_18, e_19, u_20, wr_21, g_22⟩ := hV_10
  refine tp_v (y := .ref v_8) rfl ?_
  refine lv_astore_n (lv' := [(3, .ref v_8), (0, .ref h0), (1, .int a1), (2, .int a2)]) hx hb dX8_spill_5 rfl hl (by decide) rfl (fun ls hl => ?_)
  refine lv_aload_n hx hb dX8_spill_6 rfl (lv_at hl 0 rfl) ?_
  refine lv_ifnonnull (tgt := 12) hx hb dX8_spill_7 (by decide) ?_
  refine lv_iload_n hx hb dX8_spill_12 rfl (lv_at hl 3 rfl) ?_
  refine lv_iconst (v := 1) hx hb dX8_spill_13 (by decide) ?_
  refine lv_aload_n hx hb dX8_spill_14 rfl (lv_at hl 0 rfl) ?_
  refine va_get (D := D) (ci := 7) (v := .int (mall (fv 9) a1.toNatClampNeg 40)) (C := RX7) (T := TX7) (N := 5) hx hb hts hin7 hown hK hP k_11 e_13 rfl 1 (by decide) (hts (.fieldLink RX8 144 "HoneyHouse$Vessel" "total" "I") (List.mem_of_getElem? (i := 1) rfl)) (fun _ h9 => h9) rfl dX8_spill_15 ?_
  refine vp_callSi (W.runS (As := [.int a2, .int 1, .int (mall (fv 9) a1.toNatClampNeg 40)]) (rest := []) ⟨hx, hb, hml, hown, hts⟩ (s_X8_isIn l a2 1 (mall (fv 9) a1.toNatClampNeg 40)) (va_cwS 3 hts gX8_spill_X8_isIn rfl rfl rfl (by decide +kernel) ⟨Nat.le_of_ble_eq_true rfl, Nat.le_of_ble_eq_true rfl⟩) ⟨fun a U g mk q => q, fun U hU hW => ⟨rfl, trivial⟩⟩ rfl rfl hl.1 rfl (lv_room (Nat.le_of_ble_eq_true rfl)) dX8_spill_18 ⟨Nat.le_of_ble_eq_true rfl, Nat.le_of_ble_eq_true rfl⟩) (fun r_23 k_24 => ?_)
  rcases k_24 with ⟨rfl, a_25o⟩ | ⟨rfl, a_25, b_26⟩
  · refine lv_if_ne (tgt := 27) hx hb dX8_spill_21 (by decide) (fun c_27 => absurd (by decide) c_27) (fun c_27 => ?_)
    refine lv_bipush (v := (-2)) hx hb dX8_spill_24 (by decide) ?_
    exact W.iret (v := (-2)) hx hb hr (fun t ht hW => ⟨⟨(-2), (), rfl, Or.inl ⟨Or.inr a_25o, (if_neg (fun h => Or.elim h a_5 b_6)).symm⟩, ws, tys, htx, by rw [ht]; exact hP, va_K.moved hW.alike hK, hD, Or.inl ⟨Or.inr a_25o, X⟩⟩, hS.F ht⟩) hS.2.2 dX8_spill_26
  refine lv_if_ne (tgt := 27) hx hb dX8_spill_21 (by decide) (fun c_28 => ?_) (fun c_28 => absurd c_28 (by decide))
  refine lv_aload_n hx hb dX8_spill_27 rfl (lv_at hl 1 rfl) ?_
  refine va_get (D := D) (ci := 8) (v := .ref dr) (C := RX8) (T := TX8) (N := 15) hx hb hts hin8 hown hK hP k0 e0 rfl 6 (by decide) (hts (.fieldLink RX8 47 "HoneyHouse" "draught" "LHoneyHouse$Draught;") (List.mem_of_getElem? (i := 2) rfl)) (fun _ h9 => h9) rfl dX8_spill_28 ?_
  refine lv_aload_n hx hb dX8_spill_31 rfl (lv_at hl 0 rfl) ?_
  refine lv_iload_n hx hb dX8_spill_32 rfl (lv_at hl 3 rfl) ?_
  obtain ⟨G9, u9, X9, S9, L9, ex9, hX1, hXS, hS9, hG9, hs9, hz9, hm9, -, -, hl9, hL9, -⟩ := nv_draw V hlc (t := a1.toNatClampNeg) (x := a2) (by omega) a_25 b_26
  have hvt9 : (0 : Int32) < mall (fv 9) a1.toNatClampNeg 40 := by rw [hm9]; exact nI_lt (a := 0) (b := S9) (by omega) (by omega)
  have hFc := free_all hD hS hA
  refine va_callv (va_runV (As := [.ref v_8, .int a2]) (rest := []) ⟨hx, hb, hml, hown, hts⟩ (a_drawFrom l D (rz [kdg, kdq, k_11, k_15]) ws tys dr kdr dg kdg cdg tdg fdg dq kdq cdq tdq fdq v_8 k_11 (mall (fv 9) a1.toNatClampNeg 40) (fv 10 a1.toNatClampNeg) (fv 11 a1.toNatClampNeg) (fv 12 a1.toNatClampNeg) g_12 k_15 c9_16 t_17 f_18 a2 L9 s.heap.size ((mall_sm1 (fv 9) a1.toNatClampNeg 40).trans (sm1_cg 40 (fun i hi => (g_22 i hi).symm))) hvt9 ((lak_cg 40 g_22).trans hl9) hL9 (tag_ne wr_21 wdg (by omega)) edr edg udg edq udq e_13 e_19 u_20 (rz_in (by simp)) (rz_in (by simp)) (rz_in (by simp)) (rz_in (by simp))) (cwV 2 hts gX8_spill_X1_drawFrom rfl rfl rfl (by decide +kernel) ⟨Nat.le_of_ble_eq_true rfl, Nat.le_of_ble_eq_true rfl⟩) ⟨fun a U g mk q => by obtain ⟨q0, q1, qP, qK, qD⟩ := q; exact ⟨q0, q1, qP, va_K.moved (u := U) (U := U.calling g mk a) (Vm.Alike.refl U.vm) qK, qD⟩, va_recv hK hP (ci := 1) (q0 := kdr) rfl edr, fun U hU hW => ⟨rfl, by rw [hU], by rw [hU]; exact hP, va_K.moved hW.alike hK, hD.weaken (fun _ _ _ _ => trivial)⟩⟩ rfl rfl hl.1 rfl (lv_room (Nat.le_of_ble_eq_true rfl)) dX8_spill_33 ⟨Nat.le_of_ble_eq_true rfl, Nat.le_of_ble_eq_true rfl⟩) hS (fun q _ h => hFc q h) hFc (fun u t H1 locs ht hvm w_29 hB hz1 hk1 hS => ?_)
  obtain ⟨ws_30, ty_31, hm_32, ht_34, hP1, hK1, hD1, hx_33⟩ := hB
  rw [ht] at hP1
  have hK := va_K.moved hvm.symm hK1
  have hD := hD1.weaken (fun _ _ _ h => hFc _ h)
  generalize H1 = H at hP1 hS ⊢
  have hP := hP1
  have e_35 := hm_32.keep (rz_o4 (pl_ne e0 edg (by intro h9; simp at h9)) (pl_ne e0 edq (by intro h9; simp at h9)) (pl_ne e0 e_13 (by intro h9; simp at h9)) (pl_ne e0 e_19 (by intro h9; simp at h9))) e0
  have e_36 := hm_32.keep (rz_o4 (pl_ne ela edg (by intro h9; simp at h9)) (pl_ne ela edq (by intro h9; simp at h9)) (pl_ne ela e_13 (by intro h9; simp at h9)) (pl_ne ela e_19 (by intro h9; simp at h9))) ela
  have e_37 := hm_32.keep (rz_o4 (pl_ne eta edg (by intro h9; simp at h9)) (pl_ne eta edq (by intro h9; simp at h9)) (pl_ne eta e_13 (by intro h9; simp at h9)) (pl_ne eta e_19 (by intro h9; simp at h9))) eta
  have e_38 := hm_32.keep (rz_o4 (pl_ne edr edg (by intro h9; simp at h9)) (pl_ne edr edq (by intro h9; simp at h9)) (pl_ne edr e_13 (by intro h9; simp at h9)) (pl_ne edr e_19 (by intro h9; simp at h9))) edr
  have u_39 := ht_34 _ _ ula
  have u_40 := ht_34 _ _ uta
  have u_41 := ht_34 _ _ udg
  have u_42 := ht_34 _ _ udq
  have u_43 := ht_34 _ _ u_20
  have hm_44 : sm (uy ρ [10000 + 2 * a1.toNatClampNeg, 10001 + 2 * a1.toNatClampNeg]) [7] ws ws_30 := hm_32.up (fun k _ h => rz_u4 (uy_0 wdg) (uy_0 wdq) (uy_in wk_14 (List.Mem.head _)) (uy_in wr_21 (List.Mem.tail _ (List.Mem.head _))) k h)
  have hsm := hsm.tr (hm_44.mono (by decide))
  have htx := htx.tr ht_34
  obtain ⟨f_45, f_46, e_47, hd_48, e_49, h_50, e_51⟩ := hx_33
  obtain ⟨f_53, e_52⟩ := hm_32.arrJ edq
  obtain ⟨hd_54, hf_55, hs_56⟩ := dr_told g_22 hl9 hL9 hd_48 h_50
  refine lv_aload_n hx hb dX8_spill_36 rfl (lv_at hl 0 rfl) ?_
  refine va_get (D := D) (ci := 7) (v := .int (sm1 f_46 40)) (C := RX7) (T := TX7) (N := 5) hx hb hts hin7 hown hK hP k_11 e_51 rfl 1 (by decide) (hts (.fieldLink RX8 144 "HoneyHouse$Vessel" "total" "I") (List.mem_of_getElem? (i := 1) rfl)) (fun _ h9 => h9) rfl dX8_spill_37 ?_
  exact W.iret (v := sm1 f_46 40) hx hb hr (fun t ht hW => ⟨⟨sm1 f_46 40, (), rfl, Or.inr ⟨(fun h => Or.elim h (fun h => Or.elim h a_5 b_6) (fun h => Or.elim h a_25 b_26)), hs_56⟩, ws_30, ty_31, htx, by rw [ht]; exact hP, va_K.moved hW.alike hK, hD, Or.inr ⟨(fun h => Or.elim h (fun h => Or.elim h a_5 b_6) (fun h => Or.elim h a_25 b_26)), (xi_v1 (fv' := (spiF fv a1 a2)) e_35 w0 hle0 hnum ((CL.sm qla hsm htx (fun k _ h1 h2 => uy2 (by omega) (by omega) (by omega))).fvx (fun _ _ _ _ => rfl) rfl rfl rfl) e_37 u_40 hta0 hta1 qba qra qsn qrd qdr qbl qvd qfb hsm htx (by decide) hj_7 (fun k h1 h2 h3 => uy2 (by omega) (by omega) (by omega)) hg_9 (show VES ρ (spiF fv a1 a2) ws_30 ty_31 v_8 a1.toNatClampNeg from ⟨k_11, g_12, (ves_spi hs_56 e_51), wk_14, ⟨k_15, c9_16, t_17, f_46, e_49, u_43, wr_21, hf_55⟩⟩) rfl rfl (fun r i h hi => rwS_out hi h) (fun r h => upd_n h) (fun _ _ => rfl) (fun _ _ => rfl))⟩⟩, hS.F ht⟩) hS.2.2 dX8_spill_40
set_option maxHeartbeats 4000000 in
set_option maxRecDepth 100000 in
theorem h_move (l : Launch) (D : va_G) (ρ : Nat → Nat) (ws : va_W) (tys : List (ClassId × FieldType)) (fv : Nat → Nat → Int32) (h0 lc bc rc fc : Nat) (dn : Int32) (tl : Nat) (a1 a2 a3 : Int32) (sz : Nat) (X : XI ρ fv ws tys h0 lc bc rc fc dn tl) (V : NV fv lc) : Met l yX8_move wsX8_move ({ frames := 3, cells := 0, slots := 0, locals := 72 }) (va_Pc [.ref h0, .int a1, .int a2, .int a3] (fun U => U.heap.size = sz ∧ va_P D vwCl ws U.heap ∧ va_K D vwCl tys U ∧ va_D (fun _ => True) ws)) (va_Qi (fun (r : Int32) (_ : Unit) => (movN fv a1 a2 a3 ∧ r = if ((a1 < 0 ∨ 9 < a1) ∨ (a2 < 0 ∨ 9 < a2) ∨ a1 = a2) then (-1) else (-2)) ∨ (¬ movN fv a1 a2 a3 ∧ r = drA (fv 9) a1.toNatClampNeg a3)) (fun (_ : Unit) (t : State) => ∃ (ws' : va_W) (tys' : List (ClassId × FieldType)), tyx tys tys' ∧ va_P D vwCl ws' t.heap ∧ va_K D vwCl tys' t ∧ va_D (va_A ws sz) ws' ∧ ((movN fv a1 a2 a3 ∧ XI ρ fv ws' tys' h0 lc bc rc fc dn tl) ∨ (¬ movN fv a1 a2 a3 ∧ XI ρ (movF fv a1 a2 a3) ws' tys' h0 lc bc rc fc dn tl))) (va_A ws sz)) 0 0 (va_A ws sz) := by
  refine Met.ofW (cc := cX8_move) (maxL := 7) (ret := (some .int)) (by decide) rfl ?_
  intro p e s m args below meth c s₁ B hml hv
  obtain ⟨rfl, hsz, hP, hK, hD0⟩ := hv
  have hx := B.exec
  have hb := B.bytes
  have hr := B.returns
  have hts := atoms_spec (ws := wsX8_move) B.pre
  have hown : s.vm.findClass RX8 = some m.cls := findClass_of_methodNamed B.named
  have hlocks := B.notSynchronized
  subst hsz
  have hD := hD0.self (sz := s.heap.size)
  generalize hAe : va_A ws s.heap.size = A at hD ⊢
  have hA : ∀ q : Nat, s.heap.size ≤ q → A q := fun q h => by rw [← hAe]; exact Or.inr h
  have hS : va_S A s.heap s.heap [] := va_S.rf
  have hsm : sm (uy ρ [10000 + 2 * a1.toNatClampNeg, 10001 + 2 * a1.toNatClampNeg, 10000 + 2 * a2.toNatClampNeg, 10001 + 2 * a2.toNatClampNeg]) [7] ws ws := sm.rf ws
  have htx : tyx tys tys := tyx.rf tys
  have hin7 : ∀ w ∈ u_ws RX7 TX7 5, w ∈ wsX8_move := (fun _ h9 => List.mem_cons_of_mem _ (List.mem_append_left _ (List.mem_append_left _ ((List.mem_append_right _ h9)))))
  have hin8 : ∀ w ∈ u_ws RX8 TX8 15, w ∈ wsX8_move := (fun _ h9 => List.mem_cons_of_mem _ (List.mem_append_left _ ((List.mem_append_right _ h9))))
  have hl := lv_entry ([.ref h0, .int a1, .int a2, .int a3]) (n := 7) (Nat.le_of_ble_eq_true rfl)
  rw [lg_entry_eq]
  generalize (lg_sl ([.ref h0, .int a1, .int a2, .int a3]) ++ List.replicate (7 - (lg_sl ([.ref h0, .int a1, .int a2, .int a3])).length) Slot.unset).toArray = ls at hl ⊢
  have hl : lv_has ls 7 [(0, .ref h0), (1, .int a1), (2, .int a2), (3, .int a3)] := hl
  obtain ⟨k0, la, ta, ba, ra, sn, rd, dr, bl, vd, fb, e0, w0, hle0, hnum, qla, qta, qba, qra, qsn, qrd, qdr, qbl, qvd, qfb⟩ := id X
  obtain ⟨kla, cla, tla, fla, ela, ula, hla0, hla1⟩ := id qla
  have hlc := hnum.1
  obtain ⟨kta, cta, tta, fta, eta, uta, hta0, hta1⟩ := id qta
  obtain ⟨kdr, dg, dq, edr, ⟨kdg, cdg, tdg, fdg, edg, udg, wdg⟩, ⟨kdq, cdq, tdq, fdq, edq, udq, wdq⟩⟩ := id qdr
  refine lv_aload_n hx hb dX8_move_0 rfl (lv_at hl 0 rfl) ?_
  refine lv_iload_n hx hb dX8_move_1 rfl (lv_at hl 1 rfl) ?_
  refine va_csq (W.runV (As := [.int a1]) (rest := []) ⟨hx, hb, hml, hown, hts⟩ (s_X8_tankAt l D ws tys h0 k0 _ ta kta cta fta tta a1 e0 rfl eta uta) (cwV 1 hts gX8_move_X8_tankAt rfl rfl rfl (by decide +kernel) ⟨Nat.le_of_ble_eq_true rfl, Nat.le_of_ble_eq_true rfl⟩) ⟨fun a U g mk q => ⟨q.1, q.2.1, va_K.moved (u := U) (U := U.calling g mk a) (Vm.Alike.refl U.vm) q.2.2⟩, va_recv hK hP (ci := 8) (q0 := k0) rfl e0, fun U hU hW => ⟨rfl, by rw [hU]; exact hP, va_K.moved hW.alike hK⟩⟩ rfl rfl hl.1 rfl (lv_room (Nat.le_of_ble_eq_true rfl)) dX8_move_2 ⟨Nat.le_of_ble_eq_true rfl, Nat.le_of_ble_eq_true rfl⟩) (fun r_1 k_2 => ?_)
  have hz_3 := tankx hta1 k_2
  rcases hz_3 with ⟨rfl, o_4⟩ | ⟨a_5, b_6, hj_7, v_8, rfl, hg_9, hV_10⟩
  · refine tp_v (y := .null) rfl ?_
    refine lv_astoreN (lv' := [(4, .null), (0, .ref h0), (1, .int a1), (2, .int a2), (3, .int a3)]) hx hb dX8_move_5 hl (by decide) rfl (fun ls hl => ?_)
    refine lv_aload_n hx hb dX8_move_7 rfl (lv_at hl 1 rfl) ?_
    refine lv_iload_n hx hb dX8_move_8 rfl (lv_at hl 3 rfl) ?_
    refine va_csq (W.runV (As := [.int a2]) (rest := []) ⟨hx, hb, hml, hown, hts⟩ (s_X8_tankAt l D ws tys h0 k0 _ ta kta cta fta tta a2 e0 rfl eta uta) (cwV 1 hts gX8_move_X8_tankAt rfl rfl rfl (by decide +kernel) ⟨Nat.le_of_ble_eq_true rfl, Nat.le_of_ble_eq_true rfl⟩) ⟨fun a U g mk q => ⟨q.1, q.2.1, va_K.moved (u := U) (U := U.calling g mk a) (Vm.Alike.refl U.vm) q.2.2⟩, va_recv hK hP (ci := 8) (q0 := k0) rfl e0, fun U hU hW => ⟨rfl, by rw [hU]; exact hP, va_K.moved hW.alike hK⟩⟩ rfl rfl hl.1 rfl (lv_room (Nat.le_of_ble_eq_true rfl)) dX8_move_9 ⟨Nat.le_of_ble_eq_true rfl, Nat.le_of_ble_eq_true rfl⟩) (fun r_23 k_24 => ?_)
    have hz_25 := tankx hta1 k_24
    rcases hz_25 with ⟨rfl, o_26⟩ | ⟨a_27, b_28, hj_29, v_30, rfl, hg_31, hV_32⟩
    · refine tp_v (y := .null) rfl ?_
      refine lv_astoreN (lv' := [(5, .null), (4, .null), (0, .ref h0), (1, .int a1), (2, .int a2), (3, .int a3)]) hx hb dX8_move_12 hl (by decide) rfl (fun ls hl => ?_)
      refine lv_aloadN hx hb dX8_move_14 (lv_at hl 1 rfl) ?_
      refine lv_ifnullN (tgt := 29) hx hb dX8_move_16 (by decide) ?_
      refine lv_iconst (v := (-1)) hx hb dX8_move_29 (by decide) ?_
      exact W.iret (v := (-1)) hx hb hr (fun t ht hW => ⟨⟨(-1), (), rfl, Or.inl ⟨Or.inl (Or.inl o_4), (if_pos (Or.inl o_4)).symm⟩, ws, tys, htx, by rw [ht]; exact hP, va_K.moved hW.alike hK, hD, Or.inl ⟨Or.inl (Or.inl o_4), X⟩⟩, hS.F ht⟩) hS.2.2 dX8_move_30
    obtain ⟨k_33, g_34, e_35, wk_36, k_37, c9_38, t_39, f_40, e_41, u_42, wr_43, g_44⟩ := hV_32
    refine tp_v (y := .ref v_30) rfl ?_
    refine lv_astore (lv' := [(5, .ref v_30), (4, .null), (0, .ref h0), (1, .int a1), (2, .int a2), (3, .int a3)]) hx hb dX8_move_12 hl (by decide) rfl (fun ls hl => ?_)
    refine lv_aloadN hx hb dX8_move_14 (lv_at hl 1 rfl) ?_
    refine lv_ifnullN (tgt := 29) hx hb dX8_move_16 (by decide) ?_
    refine lv_iconst (v := (-1)) hx hb dX8_move_29 (by decide) ?_
    exact W.iret (v := (-1)) hx hb hr (fun t ht hW => ⟨⟨(-1), (), rfl, Or.inl ⟨Or.inl (Or.inl o_4), (if_pos (Or.inl o_4)).symm⟩, ws, tys, htx, by rw [ht]; exact hP, va_K.moved hW.alike hK, hD, Or.inl ⟨Or.inl (Or.inl o_4), X⟩⟩, hS.F ht⟩) hS.2.2 dX8_move_30
  obtain ⟨k_11, g_12, e_13, wk_14, k_15, c9_16, t_17, f_18, e_19, u_20, wr_21, g_22⟩ := hV_10
  refine tp_v (y := .ref v_8) rfl ?_
  refine lv_astore (lv' := [(4, .ref v_8), (0, .ref h0), (1, .int a1), (2, .int a2), (3, .int a3)]) hx hb dX8_move_5 hl (by decide) rfl (fun ls hl => ?_)
  refine lv_aload_n hx hb dX8_move_7 rfl (lv_at hl 1 rfl) ?_
  refine lv_iload_n hx hb dX8_move_8 rfl (lv_at hl 3 rfl) ?_
  refine va_csq (W.runV (As := [.int a2]) (rest := []) ⟨hx, hb, hml, hown, hts⟩ (s_X8_tankAt l D ws tys h0 k0 _ ta kta cta fta tta a2 e0 rfl eta uta) (cwV 1 hts gX8_move_X8_tankAt rfl rfl rfl (by decide +kernel) ⟨Nat.le_of_ble_eq_true rfl, Nat.le_of_ble_eq_true rfl⟩) ⟨fun a U g mk q => ⟨q.1, q.2.1, va_K.moved (u := U) (U := U.calling g mk a) (Vm.Alike.refl U.vm) q.2.2⟩, va_recv hK hP (ci := 8) (q0 := k0) rfl e0, fun U hU hW => ⟨rfl, by rw [hU]; exact hP, va_K.moved hW.alike hK⟩⟩ rfl rfl hl.1 rfl (lv_room (Nat.le_of_ble_eq_true rfl)) dX8_move_9 ⟨Nat.le_of_ble_eq_true rfl, Nat.le_of_ble_eq_true rfl⟩) (fun r_45 k_46 => ?_)
  have hz_47 := tankx hta1 k_46
  rcases hz_47 with ⟨rfl, o_48⟩ | ⟨a_49, b_50, hj_51, v_52, rfl, hg_53, hV_54⟩
  · refine tp_v (y := .null) rfl ?_
    refine lv_astoreN (lv' := [(5, .null), (4, .ref v_8), (0, .ref h0), (1, .int a1), (2, .int a2), (3, .int a3)]) hx hb dX8_move_12 hl (by decide) rfl (fun ls hl => ?_)
    refine lv_aload hx hb dX8_move_14 (lv_at hl 1 rfl) ?_
    refine lv_ifnull hx hb dX8_move_16 ?_
    refine lv_aloadN hx hb dX8_move_19 (lv_at hl 0 rfl) ?_
    refine lv_ifnullN (tgt := 29) hx hb dX8_move_21 (by decide) ?_
    refine lv_iconst (v := (-1)) hx hb dX8_move_29 (by decide) ?_
    exact W.iret (v := (-1)) hx hb hr (fun t ht hW => ⟨⟨(-1), (), rfl, Or.inl ⟨Or.inl (Or.inr (Or.inl o_48)), (if_pos (Or.inr (Or.inl o_48))).symm⟩, ws, tys, htx, by rw [ht]; exact hP, va_K.moved hW.alike hK, hD, Or.inl ⟨Or.inl (Or.inr (Or.inl o_48)), X⟩⟩, hS.F ht⟩) hS.2.2 dX8_move_30
  obtain ⟨k_55, g_56, e_57, wk_58, k_59, c9_60, t_61, f_62, e_63, u_64, wr_65, g_66⟩ := hV_54
  refine tp_v (y := .ref v_52) rfl ?_
  refine lv_astore (lv' := [(5, .ref v_52), (4, .ref v_8), (0, .ref h0), (1, .int a1), (2, .int a2), (3, .int a3)]) hx hb dX8_move_12 hl (by decide) rfl (fun ls hl => ?_)
  refine lv_aload hx hb dX8_move_14 (lv_at hl 1 rfl) ?_
  refine lv_ifnull hx hb dX8_move_16 ?_
  refine lv_aload hx hb dX8_move_19 (lv_at hl 0 rfl) ?_
  refine lv_ifnull hx hb dX8_move_21 ?_
  refine lv_iload_n hx hb dX8_move_24 rfl (lv_at hl 3 rfl) ?_
  refine lv_iload_n hx hb dX8_move_25 rfl (lv_at hl 4 rfl) ?_
  refine lv_icmp_ne (tgt := 31) hx hb dX8_move_26 (by decide) (fun c_67 => ?_) (fun c_67 => ?_)
  · have hAB : a1.toNatClampNeg ≠ a2.toNatClampNeg := clamp_ne a_5 a_49 c_67
    refine lv_iload_n hx hb dX8_move_31 rfl (lv_at hl 5 rfl) ?_
    refine lv_iconst (v := 1) hx hb dX8_move_32 (by decide) ?_
    refine lv_aload hx hb dX8_move_33 (lv_at hl 1 rfl) ?_
    refine va_get (D := D) (ci := 7) (v := .int (mall (fv 9) a1.toNatClampNeg 40)) (C := RX7) (T := TX7) (N := 5) hx hb hts hin7 hown hK hP k_11 e_13 rfl 1 (by decide) (hts (.fieldLink RX8 144 "HoneyHouse$Vessel" "total" "I") (List.mem_of_getElem? (i := 1) rfl)) (fun _ h9 => h9) rfl dX8_move_35 ?_
    refine vp_callSi (W.runS (As := [.int a3, .int 1, .int (mall (fv 9) a1.toNatClampNeg 40)]) (rest := []) ⟨hx, hb, hml, hown, hts⟩ (s_X8_isIn l a3 1 (mall (fv 9) a1.toNatClampNeg 40)) (va_cwS 3 hts gX8_move_X8_isIn rfl rfl rfl (by decide +kernel) ⟨Nat.le_of_ble_eq_true rfl, Nat.le_of_ble_eq_true rfl⟩) ⟨fun a U g mk q => q, fun U hU hW => ⟨rfl, trivial⟩⟩ rfl rfl hl.1 rfl (lv_room (Nat.le_of_ble_eq_true rfl)) dX8_move_38 ⟨Nat.le_of_ble_eq_true rfl, Nat.le_of_ble_eq_true rfl⟩) (fun r_68 k_69 => ?_)
    rcases k_69 with ⟨rfl, a_70o⟩ | ⟨rfl, a_70, b_71⟩
    · refine lv_if_eq (tgt := 53) hx hb dX8_move_41 (by decide) (fun c_72 => ?_) (fun c_72 => absurd (by decide) c_72)
      refine lv_bipush (v := (-2)) hx hb dX8_move_53 (by decide) ?_
      exact W.iret (v := (-2)) hx hb hr (fun t ht hW => ⟨⟨(-2), (), rfl, Or.inl ⟨Or.inr (Or.inl a_70o), (if_neg (fun h => Or.elim h (fun h => Or.elim h a_5 b_6) (fun h => Or.elim h (fun h => Or.elim h a_49 b_50) c_67))).symm⟩, ws, tys, htx, by rw [ht]; exact hP, va_K.moved hW.alike hK, hD, Or.inl ⟨Or.inr (Or.inl a_70o), X⟩⟩, hS.F ht⟩) hS.2.2 dX8_move_55
    refine lv_if_eq (tgt := 53) hx hb dX8_move_41 (by decide) (fun c_73 => absurd c_73 (by decide)) (fun c_73 => ?_)
    refine lv_aload hx hb dX8_move_44 (lv_at hl 0 rfl) ?_
    refine lv_iload_n hx hb dX8_move_46 rfl (lv_at hl 5 rfl) ?_
    refine vp_callSi (W.runV (As := [.int a3]) (rest := []) ⟨hx, hb, hml, hown, hts⟩ (s_hasRoomFor l D ws tys v_52 k_55 (mall (fv 9) a2.toNatClampNeg 40) (fv 10 a2.toNatClampNeg) (fv 11 a2.toNatClampNeg) (fv 12 a2.toNatClampNeg) g_56 k_59 c9_60 t_61 f_62 a3 e_57 e_63 u_64) (cwV 1 hts gX8_move_X7_hasRoomFor rfl rfl rfl (by decide +kernel) ⟨Nat.le_of_ble_eq_true rfl, Nat.le_of_ble_eq_true rfl⟩) ⟨fun a U g mk q => ⟨q.1, q.2.1, va_K.moved (u := U) (U := U.calling g mk a) (Vm.Alike.refl U.vm) q.2.2⟩, va_recv hK hP (ci := 7) (q0 := k_55) rfl e_57, fun U hU hW => ⟨rfl, by rw [hU]; exact hP, va_K.moved hW.alike hK⟩⟩ rfl rfl hl.1 rfl (lv_room (Nat.le_of_ble_eq_true rfl)) dX8_move_47 ⟨Nat.le_of_ble_eq_true rfl, Nat.le_of_ble_eq_true rfl⟩) (fun r_74 k_75 => ?_)
    rcases k_75 with ⟨rfl, rm_76⟩ | ⟨rfl, rm_76⟩
    · refine lv_if_ne (tgt := 56) hx hb dX8_move_50 (by decide) (fun c_77 => absurd (by decide) c_77) (fun c_77 => ?_)
      refine lv_bipush (v := (-2)) hx hb dX8_move_53 (by decide) ?_
      exact W.iret (v := (-2)) hx hb hr (fun t ht hW => ⟨⟨(-2), (), rfl, Or.inl ⟨Or.inr (Or.inr (rm_76)), (if_neg (fun h => Or.elim h (fun h => Or.elim h a_5 b_6) (fun h => Or.elim h (fun h => Or.elim h a_49 b_50) c_67))).symm⟩, ws, tys, htx, by rw [ht]; exact hP, va_K.moved hW.alike hK, hD, Or.inl ⟨Or.inr (Or.inr (rm_76)), X⟩⟩, hS.F ht⟩) hS.2.2 dX8_move_55
    refine lv_if_ne (tgt := 56) hx hb dX8_move_50 (by decide) (fun c_78 => ?_) (fun c_78 => absurd c_78 (by decide))
    refine lv_aload hx hb dX8_move_56 (lv_at hl 1 rfl) ?_
    refine va_get (D := D) (ci := 7) (v := .int (fv 10 a1.toNatClampNeg)) (C := RX7) (T := TX7) (N := 5) hx hb hts hin7 hown hK hP k_11 e_13 rfl 2 (by decide) (hts (.fieldLink RX8 160 "HoneyHouse$Vessel" "heat" "I") (List.mem_of_getElem? (i := 2) rfl)) (fun _ h9 => h9) rfl dX8_move_58 ?_
    refine lv_istore (lv' := [(6, .int (fv 10 a1.toNatClampNeg)), (5, .ref v_52), (4, .ref v_8), (0, .ref h0), (1, .int a1), (2, .int a2), (3, .int a3)]) hx hb dX8_move_61 hl (by decide) rfl (fun ls hl => ?_)
    refine lv_aload_n hx hb dX8_move_63 rfl (lv_at hl 3 rfl) ?_
    refine va_get (D := D) (ci := 8) (v := .ref dr) (C := RX8) (T := TX8) (N := 15) hx hb hts hin8 hown hK hP k0 e0 rfl 6 (by decide) (hts (.fieldLink RX8 47 "HoneyHouse" "draught" "LHoneyHouse$Draught;") (List.mem_of_getElem? (i := 3) rfl)) (fun _ h9 => h9) rfl dX8_move_64 ?_
    refine lv_aload hx hb dX8_move_67 (lv_at hl 2 rfl) ?_
    refine lv_iload_n hx hb dX8_move_69 rfl (lv_at hl 6 rfl) ?_
    obtain ⟨G9, u9, X9, S9, L9, ex9, hX1, hXS, hS9, hG9, hs9, hz9, hm9, -, -, hl9, hL9, -⟩ := nv_draw V hlc (t := a1.toNatClampNeg) (x := a3) (by omega) a_70 b_71
    have hvt9 : (0 : Int32) < mall (fv 9) a1.toNatClampNeg 40 := by rw [hm9]; exact nI_lt (a := 0) (b := S9) (by omega) (by omega)
    have hFc := free_all hD hS hA
    refine va_callv (va_runV (As := [.ref v_8, .int a3]) (rest := []) ⟨hx, hb, hml, hown, hts⟩ (a_drawFrom l D (rz [kdg, kdq, k_11, k_15]) ws tys dr kdr dg kdg cdg tdg fdg dq kdq cdq tdq fdq v_8 k_11 (mall (fv 9) a1.toNatClampNeg 40) (fv 10 a1.toNatClampNeg) (fv 11 a1.toNatClampNeg) (fv 12 a1.toNatClampNeg) g_12 k_15 c9_16 t_17 f_18 a3 L9 s.heap.size ((mall_sm1 (fv 9) a1.toNatClampNeg 40).trans (sm1_cg 40 (fun i hi => (g_22 i hi).symm))) hvt9 ((lak_cg 40 g_22).trans hl9) hL9 (tag_ne wr_21 wdg (by omega)) edr edg udg edq udq e_13 e_19 u_20 (rz_in (by simp)) (rz_in (by simp)) (rz_in (by simp)) (rz_in (by simp))) (cwV 2 hts gX8_move_X1_drawFrom rfl rfl rfl (by decide +kernel) ⟨Nat.le_of_ble_eq_true rfl, Nat.le_of_ble_eq_true rfl⟩) ⟨fun a U g mk q => by obtain ⟨q0, q1, qP, qK, qD⟩ := q; exact ⟨q0, q1, qP, va_K.moved (u := U) (U := U.calling g mk a) (Vm.Alike.refl U.vm) qK, qD⟩, va_recv hK hP (ci := 1) (q0 := kdr) rfl edr, fun U hU hW => ⟨rfl, by rw [hU], by rw [hU]; exact hP, va_K.moved hW.alike hK, hD.weaken (fun _ _ _ _ => trivial)⟩⟩ rfl rfl hl.1 rfl (lv_room (Nat.le_of_ble_eq_true rfl)) dX8_move_70 ⟨Nat.le_of_ble_eq_true rfl, Nat.le_of_ble_eq_true rfl⟩) hS (fun q _ h => hFc q h) hFc (fun u t H1 locs ht hvm w_79 hB hz1 hk1 hS => ?_)
    obtain ⟨ws_80, ty_81, hm_82, ht_84, hP1, hK1, hD1, hx_83⟩ := hB
    rw [ht] at hP1
    have hK := va_K.moved hvm.symm hK1
    have hD := hD1.weaken (fun _ _ _ h => hFc _ h)
    generalize H1 = H at hP1 hS ⊢
    have hP := hP1
    have e_85 := hm_82.keep (rz_o4 (pl_ne e0 edg (by intro h9; simp at h9)) (pl_ne e0 edq (by intro h9; simp at h9)) (pl_ne e0 e_13 (by intro h9; simp at h9)) (pl_ne e0 e_19 (by intro h9; simp at h9))) e0
    have e_86 := hm_82.keep (rz_o4 (pl_ne ela edg (by intro h9; simp at h9)) (pl_ne ela edq (by intro h9; simp at h9)) (pl_ne ela e_13 (by intro h9; simp at h9)) (pl_ne ela e_19 (by intro h9; simp at h9))) ela
    have e_87 := hm_82.keep (rz_o4 (pl_ne eta edg (by intro h9; simp at h9)) (pl_ne eta edq (by intro h9; simp at h9)) (pl_ne eta e_13 (by intro h9; simp at h9)) (pl_ne eta e_19 (by intro h9; simp at h9))) eta
    have e_88 := hm_82.keep (rz_o4 (pl_ne edr edg (by intro h9; simp at h9)) (pl_ne edr edq (by intro h9; simp at h9)) (pl_ne edr e_13 (by intro h9; simp at h9)) (pl_ne edr e_19 (by intro h9; simp at h9))) edr
    have e_89 := hm_82.keep (rz_o4 (pl_ne e_57 edg (by intro h9; simp at h9)) (pl_ne e_57 edq (by intro h9; simp at h9)) (tag_ne wk_58 wk_14 (by omega)) (pl_ne e_57 e_19 (by intro h9; simp at h9))) e_57
    have e_90 := hm_82.keep (rz_o4 (tag_ne wr_65 wdg (by omega)) (pl_ne e_63 edq (by intro h9; simp at h9)) (pl_ne e_63 e_13 (by intro h9; simp at h9)) (tag_ne wr_65 wr_21 (by omega))) e_63
    have u_91 := ht_84 _ _ ula
    have u_92 := ht_84 _ _ uta
    have u_93 := ht_84 _ _ udg
    have u_94 := ht_84 _ _ udq
    have u_95 := ht_84 _ _ u_20
    have u_96 := ht_84 _ _ u_64
    have hm_97 : sm (uy ρ [10000 + 2 * a1.toNatClampNeg, 10001 + 2 * a1.toNatClampNeg, 10000 + 2 * a2.toNatClampNeg, 10001 + 2 * a2.toNatClampNeg]) [7] ws ws_80 := hm_82.up (fun k _ h => rz_u4 (uy_0 wdg) (uy_0 wdq) (uy_in wk_14 (List.Mem.head _)) (uy_in wr_21 (List.Mem.tail _ (List.Mem.head _))) k h)
    have hsm := hsm.tr (hm_97.mono (by decide))
    have htx := htx.tr ht_84
    obtain ⟨f_98, f_99, e_100, hd_101, e_102, h_103, e_104⟩ := hx_83
    obtain ⟨f_106, e_105⟩ := hm_82.arrJ edq
    obtain ⟨hd_107, hf_108, hs_109⟩ := dr_told g_22 hl9 hL9 hd_101 h_103
    refine lv_aload_n hx hb dX8_move_73 rfl (lv_at hl 3 rfl) ?_
    refine va_get (D := D) (ci := 8) (v := .ref dr) (C := RX8) (T := TX8) (N := 15) hx hb hts hin8 hown hK hP k0 e_85 rfl 6 (by decide) (hts (.fieldLink RX8 47 "HoneyHouse" "draught" "LHoneyHouse$Draught;") (List.mem_of_getElem? (i := 3) rfl)) (fun _ h9 => h9) rfl dX8_move_74 ?_
    refine lv_aload hx hb dX8_move_77 (lv_at hl 1 rfl) ?_
    refine lv_iload hx hb dX8_move_79 (lv_at hl 0 rfl) ?_
    have hFc := free_all hD hS hA
    refine va_callv (va_runV (As := [.ref v_52, .int (fv 10 a1.toNatClampNeg)]) (rest := []) ⟨hx, hb, hml, hown, hts⟩ (a_fillInto l D (rz [k_55, k_59]) ws_80 ty_81 dr kdr dg kdg cdg tdg f_98 dq kdq cdq tdq f_106 v_52 k_55 (mall (fv 9) a2.toNatClampNeg 40) (fv 10 a2.toNatClampNeg) (fv 11 a2.toNatClampNeg) (fv 12 a2.toNatClampNeg) g_56 k_59 c9_60 t_61 f_62 (fv 10 a1.toNatClampNeg) H.size ((mall_sm1 (fv 9) a2.toNatClampNeg 40).trans (sm1_cg 40 (fun i hi => (g_66 i hi).symm))) (tag_ne wr_65 wdg (by omega)) e_88 e_100 u_93 e_105 u_94 e_89 e_90 u_96 (rz_in (by simp)) (rz_in (by simp))) (cwV 2 hts gX8_move_X1_fillInto rfl rfl rfl (by decide +kernel) ⟨Nat.le_of_ble_eq_true rfl, Nat.le_of_ble_eq_true rfl⟩) ⟨fun a U g mk q => by obtain ⟨q0, q1, qP, qK, qD⟩ := q; exact ⟨q0, q1, qP, va_K.moved (u := U) (U := U.calling g mk a) (Vm.Alike.refl U.vm) qK, qD⟩, va_recv hK hP (ci := 1) (q0 := kdr) rfl e_88, fun U hU hW => ⟨rfl, by rw [hU], by rw [hU]; exact hP, va_K.moved hW.alike hK, hD.weaken (fun _ _ _ _ => trivial)⟩⟩ rfl rfl hl.1 rfl (lv_room (Nat.le_of_ble_eq_true rfl)) dX8_move_81 ⟨Nat.le_of_ble_eq_true rfl, Nat.le_of_ble_eq_true rfl⟩) hS (fun q _ h => hFc q h) hFc (fun u t H1 locs ht hvm w_110 hB hz1 hk1 hS => ?_)
    obtain ⟨ws_111, ty_112, hm_113, ht_115, hP1, hK1, hD1, hx_114⟩ := hB
    rw [ht] at hP1
    have hK := va_K.moved hvm.symm hK1
    have hD := hD1.weaken (fun _ _ _ h => hFc _ h)
    generalize H1 = H at hP1 hS ⊢
    have hP := hP1
    have e_116 := hm_113.keep (rz_o2 (pl_ne e_85 e_89 (by intro h9; simp at h9)) (pl_ne e_85 e_90 (by intro h9; simp at h9))) e_85
    have e_117 := hm_113.keep (rz_o2 (pl_ne e_86 e_89 (by intro h9; simp at h9)) (pl_ne e_86 e_90 (by intro h9; simp at h9))) e_86
    have e_118 := hm_113.keep (rz_o2 (pl_ne e_87 e_89 (by intro h9; simp at h9)) (pl_ne e_87 e_90 (by intro h9; simp at h9))) e_87
    have e_119 := hm_113.keep (rz_o2 (pl_ne e_88 e_89 (by intro h9; simp at h9)) (pl_ne e_88 e_90 (by intro h9; simp at h9))) e_88
    have e_120 := hm_113.keep (rz_o2 (pl_ne e_100 e_89 (by intro h9; simp at h9)) (tag_ne wdg wr_65 (by omega))) e_100
    have e_121 := hm_113.keep (rz_o2 (pl_ne e_105 e_89 (by intro h9; simp at h9)) (pl_ne e_105 e_90 (by intro h9; simp at h9))) e_105
    have e_122 := hm_113.keep (rz_o2 (tag_ne wk_14 wk_58 (by omega)) (pl_ne e_104 e_90 (by intro h9; simp at h9))) e_104
    have e_123 := hm_113.keep (rz_o2 (pl_ne e_102 e_89 (by intro h9; simp at h9)) (tag_ne wr_21 wr_65 (by omega))) e_102
    have u_124 := ht_115 _ _ u_91
    have u_125 := ht_115 _ _ u_92
    have u_126 := ht_115 _ _ u_93
    have u_127 := ht_115 _ _ u_94
    have u_128 := ht_115 _ _ u_95
    have u_129 := ht_115 _ _ u_96
    have hm_130 : sm (uy ρ [10000 + 2 * a1.toNatClampNeg, 10001 + 2 * a1.toNatClampNeg, 10000 + 2 * a2.toNatClampNeg, 10001 + 2 * a2.toNatClampNeg]) [7] ws_80 ws_111 := hm_113.up (fun k _ h => rz_u2 (uy_in wk_58 (List.Mem.tail _ (List.Mem.tail _ (List.Mem.head _)))) (uy_in wr_65 (List.Mem.tail _ (List.Mem.tail _ (List.Mem.tail _ (List.Mem.head _))))) k h)
    have hsm := hsm.tr (hm_130.mono (by decide))
    have htx := htx.tr ht_115
    obtain ⟨f_131, e_132, h_133, e_134⟩ := hx_114
    refine lv_aload hx hb dX8_move_84 (lv_at hl 2 rfl) ?_
    refine va_get (D := D) (ci := 7) (v := .int (sm1 f_99 40)) (C := RX7) (T := TX7) (N := 5) hx hb hts hin7 hown hK hP k_11 e_122 rfl 1 (by decide) (hts (.fieldLink RX8 144 "HoneyHouse$Vessel" "total" "I") (List.mem_of_getElem? (i := 1) rfl)) (fun _ h9 => h9) rfl dX8_move_86 ?_
    have hrB := row_movB (fv := fv) (a1 := a1) (a2 := a2) (a3 := a3) hAB g_66 hd_107 h_133
    exact W.iret (v := sm1 f_99 40) hx hb hr (fun t ht hW => ⟨⟨sm1 f_99 40, (), rfl, Or.inr ⟨(fun h => Or.elim h (fun h => Or.elim h (fun h => Or.elim h a_5 b_6) (fun h => Or.elim h (fun h => Or.elim h a_49 b_50) c_67)) (fun h => Or.elim h (fun h => Or.elim h a_70 b_71) rm_76)), hs_109⟩, ws_111, ty_112, htx, by rw [ht]; exact hP, va_K.moved hW.alike hK, hD, Or.inr ⟨(fun h => Or.elim h (fun h => Or.elim h (fun h => Or.elim h a_5 b_6) (fun h => Or.elim h (fun h => Or.elim h a_49 b_50) c_67)) (fun h => Or.elim h (fun h => Or.elim h a_70 b_71) rm_76)), (xi_v2 (fv' := (movF fv a1 a2 a3)) e_116 w0 hle0 hnum ((CL.sm qla hsm htx (fun k _ h1 h2 => uy4 (by omega) (by omega) (by omega) (by omega) (by omega))).fvx (fun _ _ _ _ => rfl) rfl rfl rfl) e_118 u_125 hta0 hta1 qba qra qsn qrd qdr qbl qvd qfb hsm htx (by decide) hj_7 hj_51 (fun k h1 h2 h3 h4 h5 => uy4 (by omega) h2 h3 h4 h5) hg_9 (show VES ρ (movF fv a1 a2 a3) ws_111 ty_112 v_8 a1.toNatClampNeg from ⟨k_11, g_12, (ves_movA hAB hs_109 e_122), wk_14, ⟨k_15, c9_16, t_17, f_99, e_123, u_128, wr_21, (row_movA hAB hf_108)⟩⟩) hg_53 (show VES ρ (movF fv a1 a2 a3) ws_111 ty_112 v_52 a2.toNatClampNeg from ⟨k_55, g_56, (ves_movB hAB hrB e_134), wk_58, ⟨k_59, c9_60, t_61, f_131, e_132, u_129, wr_65, hrB⟩⟩) rfl rfl (fun r i h1 h2 hi => (rwA_out hi h2).trans (rwS_out hi h1)) (fun r h1 h2 => (upd_n h1).trans (upd_n h2)) rfl rfl)⟩⟩, hS.F ht⟩) hS.2.2 dX8_move_89
  refine lv_iconst (v := (-1)) hx hb dX8_move_29 (by decide) ?_
  exact W.iret (v := (-1)) hx hb hr (fun t ht hW => ⟨⟨(-1), (), rfl, Or.inl ⟨Or.inl (Or.inr (Or.inr c_67)), (if_pos (Or.inr (Or.inr c_67))).symm⟩, ws, tys, htx, by rw [ht]; exact hP, va_K.moved hW.alike hK, hD, Or.inl ⟨Or.inl (Or.inr (Or.inr c_67)), X⟩⟩, hS.F ht⟩) hS.2.2 dX8_move_30
set_option maxHeartbeats 4000000 in
set_option maxRecDepth 100000 in
theorem h_of (l : Launch) (D : va_G) (ρ : Nat → Nat) (ws : va_W) (tys : List (ClassId × FieldType)) (fv : Nat → Nat → Int32) (h0 lc bc rc fc : Nat) (dn : Int32) (tl : Nat) (a1 a2 : Int32) (sz : Nat) (X : XI ρ fv ws tys h0 lc bc rc fc dn tl) : Met l yX8_of wsX8_of ({ frames := 2, cells := 0, slots := 0, locals := 43 }) (va_Pc [.ref h0, .int a1, .int a2] (fun U => U.heap.size = sz ∧ va_P D vwCl ws U.heap ∧ va_K D vwCl tys U ∧ va_D (fun _ => True) ws)) (va_Qi (fun (r : Int32) (_ : Unit) => (ofN lc a1 a2 ∧ r = (-1)) ∨ (¬ ofN lc a1 a2 ∧ r = fv 4 (7 * a1.toNatClampNeg + a2.toNatClampNeg))) (fun (_ : Unit) (t : State) => ∃ (ws' : va_W) (tys' : List (ClassId × FieldType)), tyx tys tys' ∧ va_P D vwCl ws' t.heap ∧ va_K D vwCl tys' t ∧ va_D (va_A ws sz) ws' ∧ (XI ρ fv ws' tys' h0 lc bc rc fc dn tl)) (va_A ws sz)) 0 0 (va_A ws sz) := by
  refine Met.ofW (cc := cX8_of) (maxL := 4) (ret := (some .int)) (by decide) rfl ?_
  intro p e s m args below meth c s₁ B hml hv
  obtain ⟨rfl, hsz, hP, hK, hD0⟩ := hv
  have hx := B.exec
  have hb := B.bytes
  have hr := B.returns
  have hts := atoms_spec (ws := wsX8_of) B.pre
  have hown : s.vm.findClass RX8 = some m.cls := findClass_of_methodNamed B.named
  have hlocks := B.notSynchronized
  subst hsz
  have hD := hD0.self (sz := s.heap.size)
  generalize hAe : va_A ws s.heap.size = A at hD ⊢
  have hA : ∀ q : Nat, s.heap.size ≤ q → A q := fun q h => by rw [← hAe]; exact Or.inr h
  have hS : va_S A s.heap s.heap [] := va_S.rf
  have hsm : sm ρ [] ws ws := sm.rf ws
  have htx : tyx tys tys := tyx.rf tys
  have hin2 : ∀ w ∈ u_ws RX2 TX2 10, w ∈ wsX8_of := (fun _ h9 => List.mem_cons_of_mem _ (List.mem_append_left _ ((List.mem_append_right _ h9))))
  have hl := lv_entry ([.ref h0, .int a1, .int a2]) (n := 4) (Nat.le_of_ble_eq_true rfl)
  rw [lg_entry_eq]
  generalize (lg_sl ([.ref h0, .int a1, .int a2]) ++ List.replicate (4 - (lg_sl ([.ref h0, .int a1, .int a2])).length) Slot.unset).toArray = ls at hl ⊢
  have hl : lv_has ls 4 [(0, .ref h0), (1, .int a1), (2, .int a2)] := hl
  obtain ⟨k0, la, ta, ba, ra, sn, rd, dr, bl, vd, fb, e0, w0, hle0, hnum, qla, qta, qba, qra, qsn, qrd, qdr, qbl, qvd, qfb⟩ := id X
  obtain ⟨kla, cla, tla, fla, ela, ula, hla0, hla1⟩ := id qla
  have hlc := hnum.1
  refine lv_aload_n hx hb dX8_of_0 rfl (lv_at hl 0 rfl) ?_
  refine lv_iload_n hx hb dX8_of_1 rfl (lv_at hl 1 rfl) ?_
  refine va_csq (W.runV (As := [.int a1]) (rest := []) ⟨hx, hb, hml, hown, hts⟩ (s_X8_lotAt l D ws tys h0 k0 _ la kla cla fla tla a1 e0 rfl ela ula) (cwV 1 hts gX8_of_X8_lotAt rfl rfl rfl (by decide +kernel) ⟨Nat.le_of_ble_eq_true rfl, Nat.le_of_ble_eq_true rfl⟩) ⟨fun a U g mk q => ⟨q.1, q.2.1, va_K.moved (u := U) (U := U.calling g mk a) (Vm.Alike.refl U.vm) q.2.2⟩, va_recv hK hP (ci := 8) (q0 := k0) rfl e0, fun U hU hW => ⟨rfl, by rw [hU]; exact hP, va_K.moved hW.alike hK⟩⟩ rfl rfl hl.1 rfl (lv_room (Nat.le_of_ble_eq_true rfl)) dX8_of_2 ⟨Nat.le_of_ble_eq_true rfl, Nat.le_of_ble_eq_true rfl⟩) (fun r_1 k_2 => ?_)
  have hz_3 := lotx hlc hla0 hla1 k_2
  rcases hz_3 with ⟨rfl, o_4⟩ | ⟨a_5, b_6, hj_7, v_8, rfl, hg_9, hL_10⟩
  · refine tp_v (y := .null) rfl ?_
    refine lv_astore_nN (lv' := [(3, .null), (0, .ref h0), (1, .int a1), (2, .int a2)]) hx hb dX8_of_5 rfl hl (by decide) rfl (fun ls hl => ?_)
    refine lv_aload_nN hx hb dX8_of_6 rfl (lv_at hl 0 rfl) ?_
    refine lv_ifnonnullN hx hb dX8_of_7 ?_
    refine lv_iconst (v := (-1)) hx hb dX8_of_10 (by decide) ?_
    exact W.iret (v := (-1)) hx hb hr (fun t ht hW => ⟨⟨(-1), (), rfl, Or.inl ⟨Or.inl o_4, rfl⟩, ws, tys, htx, by rw [ht]; exact hP, va_K.moved hW.alike hK, hD, X⟩, hS.F ht⟩) hS.2.2 dX8_of_11
  obtain ⟨k_11, lo_12, hi_13, st_14, e_15, wk_16, ⟨k_22, c9_23, t_24, f_25, e_26, u_27, wr_28, g_29⟩, ⟨k_30, c9_31, t_32, f_33, e_34, u_35, wr_36, g_37⟩, ks_17, ga_18, gb_19, es_20, wks_21, ⟨k_38, c9_39, t_40, f_41, e_42, u_43, wr_44, g_45⟩, ⟨k_46, c9_47, t_48, f_49, e_50, u_51, wr_52, g_53⟩⟩ := hL_10
  refine tp_v (y := .ref v_8) rfl ?_
  refine lv_astore_n (lv' := [(3, .ref v_8), (0, .ref h0), (1, .int a1), (2, .int a2)]) hx hb dX8_of_5 rfl hl (by decide) rfl (fun ls hl => ?_)
  refine lv_aload_n hx hb dX8_of_6 rfl (lv_at hl 0 rfl) ?_
  refine lv_ifnonnull (tgt := 12) hx hb dX8_of_7 (by decide) ?_
  refine lv_iload_n hx hb dX8_of_12 rfl (lv_at hl 3 rfl) ?_
  by_cases c_54 : a2 = 0
  · refine lv_tableIn (off := 43) (tgt := 56) hx hb dX8_of_13 (by rw [c_54]; decide) (by rw [c_54]; decide) (by rw [c_54]; rfl) (by decide) ?_
    refine lv_aload_n hx hb dX8_of_56 rfl (lv_at hl 0 rfl) ?_
    refine va_get (D := D) (ci := 2) (v := .int (fv 4 (7 * a1.toNatClampNeg))) (C := RX2) (T := TX2) (N := 10) hx hb hts hin2 hown hK hP k_11 e_15 rfl 0 (by decide) (hts (.fieldLink RX8 127 "HoneyHouse$Lot" "keeper" "I") (List.mem_of_getElem? (i := 1) rfl)) (fun _ h9 => h9) rfl dX8_of_57 ?_
    exact W.iret (v := fv 4 (7 * a1.toNatClampNeg)) hx hb hr (fun t ht hW => ⟨⟨fv 4 (7 * a1.toNatClampNeg), (), rfl, Or.inr ⟨(fun h => Or.elim h (fun h => Or.elim h a_5 b_6) (fun h => absurd h (by rw [c_54]; decide))), by rw [c_54]; rfl⟩, ws, tys, htx, by rw [ht]; exact hP, va_K.moved hW.alike hK, hD, X⟩, hS.F ht⟩) hS.2.2 dX8_of_60
  by_cases c_55 : a2 = 1
  · refine lv_tableIn (off := 48) (tgt := 61) hx hb dX8_of_13 (by rw [c_55]; decide) (by rw [c_55]; decide) (by rw [c_55]; rfl) (by decide) ?_
    refine lv_aload_n hx hb dX8_of_61 rfl (lv_at hl 0 rfl) ?_
    refine va_get (D := D) (ci := 2) (v := .int (fv 4 (7 * a1.toNatClampNeg + 1))) (C := RX2) (T := TX2) (N := 10) hx hb hts hin2 hown hK hP k_11 e_15 rfl 1 (by decide) (hts (.fieldLink RX8 120 "HoneyHouse$Lot" "grams" "I") (List.mem_of_getElem? (i := 2) rfl)) (fun _ h9 => h9) rfl dX8_of_62 ?_
    exact W.iret (v := fv 4 (7 * a1.toNatClampNeg + 1)) hx hb hr (fun t ht hW => ⟨⟨fv 4 (7 * a1.toNatClampNeg + 1), (), rfl, Or.inr ⟨(fun h => Or.elim h (fun h => Or.elim h a_5 b_6) (fun h => absurd h (by rw [c_55]; decide))), by rw [c_55]; rfl⟩, ws, tys, htx, by rw [ht]; exact hP, va_K.moved hW.alike hK, hD, X⟩, hS.F ht⟩) hS.2.2 dX8_of_65
  by_cases c_56 : a2 = 2
  · refine lv_tableIn (off := 53) (tgt := 66) hx hb dX8_of_13 (by rw [c_56]; decide) (by rw [c_56]; decide) (by rw [c_56]; rfl) (by decide) ?_
    refine lv_aload_n hx hb dX8_of_66 rfl (lv_at hl 0 rfl) ?_
    refine va_get (D := D) (ci := 2) (v := .int (fv 4 (7 * a1.toNatClampNeg + 2))) (C := RX2) (T := TX2) (N := 10) hx hb hts hin2 hown hK hP k_11 e_15 rfl 7 (by decide) (hts (.fieldLink RX8 114 "HoneyHouse$Lot" "water" "I") (List.mem_of_getElem? (i := 3) rfl)) (fun _ h9 => h9) rfl dX8_of_67 ?_
    exact W.iret (v := fv 4 (7 * a1.toNatClampNeg + 2)) hx hb hr (fun t ht hW => ⟨⟨fv 4 (7 * a1.toNatClampNeg + 2), (), rfl, Or.inr ⟨(fun h => Or.elim h (fun h => Or.elim h a_5 b_6) (fun h => absurd h (by rw [c_56]; decide))), by rw [c_56]; rfl⟩, ws, tys, htx, by rw [ht]; exact hP, va_K.moved hW.alike hK, hD, X⟩, hS.F ht⟩) hS.2.2 dX8_of_70
  by_cases c_57 : a2 = 3
  · refine lv_tableIn (off := 58) (tgt := 71) hx hb dX8_of_13 (by rw [c_57]; decide) (by rw [c_57]; decide) (by rw [c_57]; rfl) (by decide) ?_
    refine lv_aload_n hx hb dX8_of_71 rfl (lv_at hl 0 rfl) ?_
    refine va_get (D := D) (ci := 2) (v := .int (fv 4 (7 * a1.toNatClampNeg + 3))) (C := RX2) (T := TX2) (N := 10) hx hb hts hin2 hown hK hP k_11 e_15 rfl 2 (by decide) (hts (.fieldLink RX8 130 "HoneyHouse$Lot" "colour" "I") (List.mem_of_getElem? (i := 4) rfl)) (fun _ h9 => h9) rfl dX8_of_72 ?_
    exact W.iret (v := fv 4 (7 * a1.toNatClampNeg + 3)) hx hb hr (fun t ht hW => ⟨⟨fv 4 (7 * a1.toNatClampNeg + 3), (), rfl, Or.inr ⟨(fun h => Or.elim h (fun h => Or.elim h a_5 b_6) (fun h => absurd h (by rw [c_57]; decide))), by rw [c_57]; rfl⟩, ws, tys, htx, by rw [ht]; exact hP, va_K.moved hW.alike hK, hD, X⟩, hS.F ht⟩) hS.2.2 dX8_of_75
  by_cases c_58 : a2 = 4
  · refine lv_tableIn (off := 63) (tgt := 76) hx hb dX8_of_13 (by rw [c_58]; decide) (by rw [c_58]; decide) (by rw [c_58]; rfl) (by decide) ?_
    refine lv_aload_n hx hb dX8_of_76 rfl (lv_at hl 0 rfl) ?_
    refine va_get (D := D) (ci := 2) (v := .int (fv 4 (7 * a1.toNatClampNeg + 4))) (C := RX2) (T := TX2) (N := 10) hx hb hts hin2 hown hK hP k_11 e_15 rfl 3 (by decide) (hts (.fieldLink RX8 133 "HoneyHouse$Lot" "land" "I") (List.mem_of_getElem? (i := 5) rfl)) (fun _ h9 => h9) rfl dX8_of_77 ?_
    exact W.iret (v := fv 4 (7 * a1.toNatClampNeg + 4)) hx hb hr (fun t ht hW => ⟨⟨fv 4 (7 * a1.toNatClampNeg + 4), (), rfl, Or.inr ⟨(fun h => Or.elim h (fun h => Or.elim h a_5 b_6) (fun h => absurd h (by rw [c_58]; decide))), by rw [c_58]; rfl⟩, ws, tys, htx, by rw [ht]; exact hP, va_K.moved hW.alike hK, hD, X⟩, hS.F ht⟩) hS.2.2 dX8_of_80
  by_cases c_59 : a2 = 5
  · refine lv_tableIn (off := 68) (tgt := 81) hx hb dX8_of_13 (by rw [c_59]; decide) (by rw [c_59]; decide) (by rw [c_59]; rfl) (by decide) ?_
    refine lv_aload_n hx hb dX8_of_81 rfl (lv_at hl 0 rfl) ?_
    refine va_get (D := D) (ci := 2) (v := .int (fv 4 (7 * a1.toNatClampNeg + 5))) (C := RX2) (T := TX2) (N := 10) hx hb hts hin2 hown hK hP k_11 e_15 rfl 8 (by decide) (hts (.fieldLink RX8 136 "HoneyHouse$Lot" "left" "I") (List.mem_of_getElem? (i := 6) rfl)) (fun _ h9 => h9) rfl dX8_of_82 ?_
    exact W.iret (v := fv 4 (7 * a1.toNatClampNeg + 5)) hx hb hr (fun t ht hW => ⟨⟨fv 4 (7 * a1.toNatClampNeg + 5), (), rfl, Or.inr ⟨(fun h => Or.elim h (fun h => Or.elim h a_5 b_6) (fun h => absurd h (by rw [c_59]; decide))), by rw [c_59]; rfl⟩, ws, tys, htx, by rw [ht]; exact hP, va_K.moved hW.alike hK, hD, X⟩, hS.F ht⟩) hS.2.2 dX8_of_85
  by_cases c_60 : a2 = 6
  · refine lv_tableIn (off := 73) (tgt := 86) hx hb dX8_of_13 (by rw [c_60]; decide) (by rw [c_60]; decide) (by rw [c_60]; rfl) (by decide) ?_
    refine lv_aload_n hx hb dX8_of_86 rfl (lv_at hl 0 rfl) ?_
    refine va_get (D := D) (ci := 2) (v := .int (fv 4 (7 * a1.toNatClampNeg + 6))) (C := RX2) (T := TX2) (N := 10) hx hb hts hin2 hown hK hP k_11 e_15 rfl 9 (by decide) (hts (.fieldLink RX8 111 "HoneyHouse$Lot" "pay" "I") (List.mem_of_getElem? (i := 7) rfl)) (fun _ h9 => h9) rfl dX8_of_87 ?_
    exact W.iret (v := fv 4 (7 * a1.toNatClampNeg + 6)) hx hb hr (fun t ht hW => ⟨⟨fv 4 (7 * a1.toNatClampNeg + 6), (), rfl, Or.inr ⟨(fun h => Or.elim h (fun h => Or.elim h a_5 b_6) (fun h => absurd h (by rw [c_60]; decide))), by rw [c_60]; rfl⟩, ws, tys, htx, by rw [ht]; exact hP, va_K.moved hW.alike hK, hD, X⟩, hS.F ht⟩) hS.2.2 dX8_of_90
  have nc_54 := lv_neT c_54 (a := 0) (by decide)
  have nc_55 := lv_neT c_55 (a := 1) (by decide)
  have nc_56 := lv_neT c_56 (a := 2) (by decide)
  have nc_57 := lv_neT c_57 (a := 3) (by decide)
  have nc_58 := lv_neT c_58 (a := 4) (by decide)
  have nc_59 := lv_neT c_59 (a := 5) (by decide)
  have nc_60 := lv_neT c_60 (a := 6) (by decide)
  refine lv_tableOut (tgt := 91) hx hb dX8_of_13 (by omega) (by decide) ?_
  refine lv_iconst (v := (-1)) hx hb dX8_of_91 (by decide) ?_
  exact W.iret (v := (-1)) hx hb hr (fun t ht hW => ⟨⟨(-1), (), rfl, Or.inl ⟨Or.inr (sw7 c_54 c_55 c_56 c_57 c_58 c_59 c_60), rfl⟩, ws, tys, htx, by rw [ht]; exact hP, va_K.moved hW.alike hK, hD, X⟩, hS.F ht⟩) hS.2.2 dX8_of_92
set_option maxHeartbeats 4000000 in
set_option maxRecDepth 100000 in
theorem h_holds (l : Launch) (D : va_G) (ρ : Nat → Nat) (ws : va_W) (tys : List (ClassId × FieldType)) (fv : Nat → Nat → Int32) (h0 lc bc rc fc : Nat) (dn : Int32) (tl : Nat) (a1 a2 a3 : Int32) (sz : Nat) (X : XI ρ fv ws tys h0 lc bc rc fc dn tl) : Met l yX8_holds wsX8_holds ({ frames := 3, cells := 0, slots := 0, locals := 65 }) (va_Pc [.ref h0, .int a1, .int a2, .int a3] (fun U => U.heap.size = sz ∧ va_P D vwCl ws U.heap ∧ va_K D vwCl tys U ∧ va_D (fun _ => True) ws)) (va_Qi (fun (r : Int32) (_ : Unit) => (hldN bc a1 a2 a3 ∧ r = (-1)) ∨ (¬ hldN bc a1 a2 a3 ∧ r = hldV fv a1 a2 a3)) (fun (_ : Unit) (t : State) => ∃ (ws' : va_W) (tys' : List (ClassId × FieldType)), tyx tys tys' ∧ va_P D vwCl ws' t.heap ∧ va_K D vwCl tys' t ∧ va_D (va_A ws sz) ws' ∧ (XI ρ fv ws' tys' h0 lc bc rc fc dn tl)) (va_A ws sz)) 0 0 (va_A ws sz) := by
  refine Met.ofW (cc := cX8_holds) (maxL := 5) (ret := (some .int)) (by decide) rfl ?_
  intro p e s m args below meth c s₁ B hml hv
  obtain ⟨rfl, hsz, hP, hK, hD0⟩ := hv
  have hx := B.exec
  have hb := B.bytes
  have hr := B.returns
  have hts := atoms_spec (ws := wsX8_holds) B.pre
  have hown : s.vm.findClass RX8 = some m.cls := findClass_of_methodNamed B.named
  have hlocks := B.notSynchronized
  subst hsz
  have hD := hD0.self (sz := s.heap.size)
  generalize hAe : va_A ws s.heap.size = A at hD ⊢
  have hA : ∀ q : Nat, s.heap.size ≤ q → A q := fun q h => by rw [← hAe]; exact Or.inr h
  have hS : va_S A s.heap s.heap [] := va_S.rf
  have hsm : sm ρ [] ws ws := sm.rf ws
  have htx : tyx tys tys := tyx.rf tys
  have hin7 : ∀ w ∈ u_ws RX7 TX7 5, w ∈ wsX8_holds := (fun _ h9 => List.mem_cons_of_mem _ (List.mem_append_left _ ((List.mem_append_right _ h9))))
  have hl := lv_entry ([.ref h0, .int a1, .int a2, .int a3]) (n := 5) (Nat.le_of_ble_eq_true rfl)
  rw [lg_entry_eq]
  generalize (lg_sl ([.ref h0, .int a1, .int a2, .int a3]) ++ List.replicate (5 - (lg_sl ([.ref h0, .int a1, .int a2, .int a3])).length) Slot.unset).toArray = ls at hl ⊢
  have hl : lv_has ls 5 [(0, .ref h0), (1, .int a1), (2, .int a2), (3, .int a3)] := hl
  obtain ⟨k0, la, ta, ba, ra, sn, rd, dr, bl, vd, fb, e0, w0, hle0, hnum, qla, qta, qba, qra, qsn, qrd, qdr, qbl, qvd, qfb⟩ := id X
  obtain ⟨kla, cla, tla, fla, ela, ula, hla0, hla1⟩ := id qla
  have hlc := hnum.1
  obtain ⟨kta, cta, tta, fta, eta, uta, hta0, hta1⟩ := id qta
  obtain ⟨kba, cba, tba, fba, eba, uba, hba0, hba1⟩ := id qba
  refine lv_aload_n hx hb dX8_holds_0 rfl (lv_at hl 0 rfl) ?_
  refine lv_iload_n hx hb dX8_holds_1 rfl (lv_at hl 1 rfl) ?_
  refine lv_iload_n hx hb dX8_holds_2 rfl (lv_at hl 2 rfl) ?_
  refine va_csq (W.runV (As := [.int a1, .int a2]) (rest := []) ⟨hx, hb, hml, hown, hts⟩ (s_vesselAt l D ws tys h0 k0 _ ta kta cta fta tta ba kba cba fba tba a1 a2 e0 rfl eta uta rfl eba uba) (cwV 2 hts gX8_holds_X8_vesselAt rfl rfl rfl (by decide +kernel) ⟨Nat.le_of_ble_eq_true rfl, Nat.le_of_ble_eq_true rfl⟩) ⟨fun a U g mk q => ⟨q.1, q.2.1, va_K.moved (u := U) (U := U.calling g mk a) (Vm.Alike.refl U.vm) q.2.2⟩, va_recv hK hP (ci := 8) (q0 := k0) rfl e0, fun U hU hW => ⟨rfl, by rw [hU]; exact hP, va_K.moved hW.alike hK⟩⟩ rfl rfl hl.1 rfl (lv_room (Nat.le_of_ble_eq_true rfl)) dX8_holds_3 ⟨Nat.le_of_ble_eq_true rfl, Nat.le_of_ble_eq_true rfl⟩) (fun r_1 k_2 => ?_)
  have hz_3 := vesx hnum.2.1 hta1 hba0 hba1 k_2
  rcases hz_3 with ⟨rfl, rn_4⟩ | ⟨rn_4, hr_5, v_6, rfl, hV_7⟩
  · refine tp_v (y := .null) rfl ?_
    refine lv_astoreN (lv' := [(4, .null), (0, .ref h0), (1, .int a1), (2, .int a2), (3, .int a3)]) hx hb dX8_holds_6 hl (by decide) rfl (fun ls hl => ?_)
    refine lv_aloadN hx hb dX8_holds_8 (lv_at hl 0 rfl) ?_
    refine lv_ifnonnullN hx hb dX8_holds_10 ?_
    refine lv_iconst (v := (-1)) hx hb dX8_holds_13 (by decide) ?_
    exact W.iret (v := (-1)) hx hb hr (fun t ht hW => ⟨⟨(-1), (), rfl, Or.inl ⟨Or.inl rn_4, rfl⟩, ws, tys, htx, by rw [ht]; exact hP, va_K.moved hW.alike hK, hD, X⟩, hS.F ht⟩) hS.2.2 dX8_holds_14
  obtain ⟨k_9, g_10, e_11, wk_12, k_13, c9_14, t_15, f_16, e_17, u_18, wr_19, g_20⟩ := hV_7
  refine tp_v (y := .ref v_6) rfl ?_
  refine lv_astore (lv' := [(4, .ref v_6), (0, .ref h0), (1, .int a1), (2, .int a2), (3, .int a3)]) hx hb dX8_holds_6 hl (by decide) rfl (fun ls hl => ?_)
  refine lv_aload hx hb dX8_holds_8 (lv_at hl 0 rfl) ?_
  refine lv_ifnonnull (tgt := 15) hx hb dX8_holds_10 (by decide) ?_
  refine lv_iload_n hx hb dX8_holds_15 rfl (lv_at hl 4 rfl) ?_
  by_cases c_21 : a3 = 0
  · refine lv_tableIn (off := 36) (tgt := 52) hx hb dX8_holds_16 (by rw [c_21]; decide) (by rw [c_21]; decide) (by rw [c_21]; rfl) (by decide) ?_
    refine lv_aload hx hb dX8_holds_52 (lv_at hl 0 rfl) ?_
    refine va_get (D := D) (ci := 7) (v := .int (mall (fv 9) (rowI a1 a2) 40)) (C := RX7) (T := TX7) (N := 5) hx hb hts hin7 hown hK hP k_9 e_11 rfl 1 (by decide) (hts (.fieldLink RX8 144 "HoneyHouse$Vessel" "total" "I") (List.mem_of_getElem? (i := 1) rfl)) (fun _ h9 => h9) rfl dX8_holds_54 ?_
    exact W.iret (v := mall (fv 9) (rowI a1 a2) 40) hx hb hr (fun t ht hW => ⟨⟨mall (fv 9) (rowI a1 a2) 40, (), rfl, Or.inr ⟨(fun h => Or.elim h rn_4 (fun h => absurd h (by rw [c_21]; decide))), by rw [c_21]; rfl⟩, ws, tys, htx, by rw [ht]; exact hP, va_K.moved hW.alike hK, hD, X⟩, hS.F ht⟩) hS.2.2 dX8_holds_57
  by_cases c_22 : a3 = 1
  · refine lv_tableIn (off := 42) (tgt := 58) hx hb dX8_holds_16 (by rw [c_22]; decide) (by rw [c_22]; decide) (by rw [c_22]; rfl) (by decide) ?_
    refine lv_aload hx hb dX8_holds_58 (lv_at hl 0 rfl) ?_
    refine vp_callSi (W.runV (As := []) (rest := []) ⟨hx, hb, hml, hown, hts⟩ (s_lotsInIt l D ws tys v_6 k_9 (mall (fv 9) (rowI a1 a2) 40) (fv 10 (rowI a1 a2)) (fv 11 (rowI a1 a2)) (fv 12 (rowI a1 a2)) g_10 k_13 c9_14 t_15 f_16 e_11 e_17 u_18) (cwV 0 hts gX8_holds_X7_lotsInIt rfl rfl rfl (by decide +kernel) ⟨Nat.le_of_ble_eq_true rfl, Nat.le_of_ble_eq_true rfl⟩) ⟨fun a U g mk q => ⟨q.1, q.2.1, va_K.moved (u := U) (U := U.calling g mk a) (Vm.Alike.refl U.vm) q.2.2⟩, va_recv hK hP (ci := 7) (q0 := k_9) rfl e_11, fun U hU hW => ⟨rfl, by rw [hU]; exact hP, va_K.moved hW.alike hK⟩⟩ rfl rfl hl.1 rfl (lv_room (Nat.le_of_ble_eq_true rfl)) dX8_holds_60 ⟨Nat.le_of_ble_eq_true rfl, Nat.le_of_ble_eq_true rfl⟩) (fun r_23 k_24 => ?_)
    obtain rfl : r_23 = lin (fun i => fv 9 (40 * (rowI a1 a2) + i)) 40 := k_24.trans (lin_cg 40 g_20)
    exact W.iret (v := lin (fun i => fv 9 (40 * (rowI a1 a2) + i)) 40) hx hb hr (fun t ht hW => ⟨⟨lin (fun i => fv 9 (40 * (rowI a1 a2) + i)) 40, (), rfl, Or.inr ⟨(fun h => Or.elim h rn_4 (fun h => absurd h (by rw [c_22]; decide))), by rw [c_22]; rfl⟩, ws, tys, htx, by rw [ht]; exact hP, va_K.moved hW.alike hK, hD, X⟩, hS.F ht⟩) hS.2.2 dX8_holds_63
  by_cases c_25 : a3 = 2
  · refine lv_tableIn (off := 48) (tgt := 64) hx hb dX8_holds_16 (by rw [c_25]; decide) (by rw [c_25]; decide) (by rw [c_25]; rfl) (by decide) ?_
    refine lv_aload hx hb dX8_holds_64 (lv_at hl 0 rfl) ?_
    refine va_get (D := D) (ci := 7) (v := .int (fv 10 (rowI a1 a2))) (C := RX7) (T := TX7) (N := 5) hx hb hts hin7 hown hK hP k_9 e_11 rfl 2 (by decide) (hts (.fieldLink RX8 160 "HoneyHouse$Vessel" "heat" "I") (List.mem_of_getElem? (i := 2) rfl)) (fun _ h9 => h9) rfl dX8_holds_66 ?_
    exact W.iret (v := fv 10 (rowI a1 a2)) hx hb hr (fun t ht hW => ⟨⟨fv 10 (rowI a1 a2), (), rfl, Or.inr ⟨(fun h => Or.elim h rn_4 (fun h => absurd h (by rw [c_25]; decide))), by rw [c_25]; rfl⟩, ws, tys, htx, by rw [ht]; exact hP, va_K.moved hW.alike hK, hD, X⟩, hS.F ht⟩) hS.2.2 dX8_holds_69
  by_cases c_26 : a3 = 3
  · refine lv_tableIn (off := 54) (tgt := 70) hx hb dX8_holds_16 (by rw [c_26]; decide) (by rw [c_26]; decide) (by rw [c_26]; rfl) (by decide) ?_
    refine lv_aload hx hb dX8_holds_70 (lv_at hl 0 rfl) ?_
    refine va_get (D := D) (ci := 7) (v := .int (fv 11 (rowI a1 a2))) (C := RX7) (T := TX7) (N := 5) hx hb hts hin7 hown hK hP k_9 e_11 rfl 3 (by decide) (hts (.fieldLink RX8 147 "HoneyHouse$Vessel" "roomOrTank" "I") (List.mem_of_getElem? (i := 3) rfl)) (fun _ h9 => h9) rfl dX8_holds_72 ?_
    exact W.iret (v := fv 11 (rowI a1 a2)) hx hb hr (fun t ht hW => ⟨⟨fv 11 (rowI a1 a2), (), rfl, Or.inr ⟨(fun h => Or.elim h rn_4 (fun h => absurd h (by rw [c_26]; decide))), by rw [c_26]; rfl⟩, ws, tys, htx, by rw [ht]; exact hP, va_K.moved hW.alike hK, hD, X⟩, hS.F ht⟩) hS.2.2 dX8_holds_75
  by_cases c_27 : a3 = 4
  · refine lv_tableIn (off := 60) (tgt := 76) hx hb dX8_holds_16 (by rw [c_27]; decide) (by rw [c_27]; decide) (by rw [c_27]; rfl) (by decide) ?_
    refine lv_aload hx hb dX8_holds_76 (lv_at hl 0 rfl) ?_
    refine va_get (D := D) (ci := 7) (v := .int (fv 12 (rowI a1 a2))) (C := RX7) (T := TX7) (N := 5) hx hb hts hin7 hown hK hP k_9 e_11 rfl 4 (by decide) (hts (.fieldLink RX8 150 "HoneyHouse$Vessel" "priceOrDay" "I") (List.mem_of_getElem? (i := 4) rfl)) (fun _ h9 => h9) rfl dX8_holds_78 ?_
    exact W.iret (v := fv 12 (rowI a1 a2)) hx hb hr (fun t ht hW => ⟨⟨fv 12 (rowI a1 a2), (), rfl, Or.inr ⟨(fun h => Or.elim h rn_4 (fun h => absurd h (by rw [c_27]; decide))), by rw [c_27]; rfl⟩, ws, tys, htx, by rw [ht]; exact hP, va_K.moved hW.alike hK, hD, X⟩, hS.F ht⟩) hS.2.2 dX8_holds_81
  have nc_21 := lv_neT c_21 (a := 0) (by decide)
  have nc_22 := lv_neT c_22 (a := 1) (by decide)
  have nc_25 := lv_neT c_25 (a := 2) (by decide)
  have nc_26 := lv_neT c_26 (a := 3) (by decide)
  have nc_27 := lv_neT c_27 (a := 4) (by decide)
  refine lv_tableOut (tgt := 82) hx hb dX8_holds_16 (by omega) (by decide) ?_
  refine lv_iconst (v := (-1)) hx hb dX8_holds_82 (by decide) ?_
  exact W.iret (v := (-1)) hx hb hr (fun t ht hW => ⟨⟨(-1), (), rfl, Or.inl ⟨Or.inr (sw5 c_21 c_22 c_25 c_26 c_27), rfl⟩, ws, tys, htx, by rw [ht]; exact hP, va_K.moved hW.alike hK, hD, X⟩, hS.F ht⟩) hS.2.2 dX8_holds_83
set_option maxHeartbeats 4000000 in
set_option maxRecDepth 100000 in
theorem h_part (l : Launch) (D : va_G) (ρ : Nat → Nat) (ws : va_W) (tys : List (ClassId × FieldType)) (fv : Nat → Nat → Int32) (h0 lc bc rc fc : Nat) (dn : Int32) (tl : Nat) (a1 a2 a3 : Int32) (sz : Nat) (X : XI ρ fv ws tys h0 lc bc rc fc dn tl) : Met l yX8_part wsX8_part ({ frames := 3, cells := 0, slots := 0, locals := 65 }) (va_Pc [.ref h0, .int a1, .int a2, .int a3] (fun U => U.heap.size = sz ∧ va_P D vwCl ws U.heap ∧ va_K D vwCl tys U ∧ va_D (fun _ => True) ws)) (va_Qi (fun (r : Int32) (_ : Unit) => (prtN bc lc a1 a2 a3 ∧ r = (-1)) ∨ (¬ prtN bc lc a1 a2 a3 ∧ r = fv 9 (40 * rowI a1 a2 + a3.toNatClampNeg))) (fun (_ : Unit) (t : State) => ∃ (ws' : va_W) (tys' : List (ClassId × FieldType)), tyx tys tys' ∧ va_P D vwCl ws' t.heap ∧ va_K D vwCl tys' t ∧ va_D (va_A ws sz) ws' ∧ (XI ρ fv ws' tys' h0 lc bc rc fc dn tl)) (va_A ws sz)) 0 0 (va_A ws sz) := by
  refine Met.ofW (cc := cX8_part) (maxL := 5) (ret := (some .int)) (by decide) rfl ?_
  intro p e s m args below meth c s₁ B hml hv
  obtain ⟨rfl, hsz, hP, hK, hD0⟩ := hv
  have hx := B.exec
  have hb := B.bytes
  have hr := B.returns
  have hts := atoms_spec (ws := wsX8_part) B.pre
  have hown : s.vm.findClass RX8 = some m.cls := findClass_of_methodNamed B.named
  have hlocks := B.notSynchronized
  subst hsz
  have hD := hD0.self (sz := s.heap.size)
  generalize hAe : va_A ws s.heap.size = A at hD ⊢
  have hA : ∀ q : Nat, s.heap.size ≤ q → A q := fun q h => by rw [← hAe]; exact Or.inr h
  have hS : va_S A s.heap s.heap [] := va_S.rf
  have hsm : sm ρ [] ws ws := sm.rf ws
  have htx : tyx tys tys := tyx.rf tys
  have hl := lv_entry ([.ref h0, .int a1, .int a2, .int a3]) (n := 5) (Nat.le_of_ble_eq_true rfl)
  rw [lg_entry_eq]
  generalize (lg_sl ([.ref h0, .int a1, .int a2, .int a3]) ++ List.replicate (5 - (lg_sl ([.ref h0, .int a1, .int a2, .int a3])).length) Slot.unset).toArray = ls at hl ⊢
  have hl : lv_has ls 5 [(0, .ref h0), (1, .int a1), (2, .int a2), (3, .int a3)] := hl
  obtain ⟨k0, la, ta, ba, ra, sn, rd, dr, bl, vd, fb, e0, w0, hle0, hnum, qla, qta, qba, qra, qsn, qrd, qdr, qbl, qvd, qfb⟩ := id X
  obtain ⟨kla, cla, tla, fla, ela, ula, hla0, hla1⟩ := id qla
  have hlc := hnum.1
  obtain ⟨kta, cta, tta, fta, eta, uta, hta0, hta1⟩ := id qta
  obtain ⟨kba, cba, tba, fba, eba, uba, hba0, hba1⟩ := id qba
  refine lv_aload_n hx hb dX8_part_0 rfl (lv_at hl 0 rfl) ?_
  refine lv_iload_n hx hb dX8_part_1 rfl (lv_at hl 1 rfl) ?_
  refine lv_iload_n hx hb dX8_part_2 rfl (lv_at hl 2 rfl) ?_
  refine va_csq (W.runV (As := [.int a1, .int a2]) (rest := []) ⟨hx, hb, hml, hown, hts⟩ (s_vesselAt l D ws tys h0 k0 _ ta kta cta fta tta ba kba cba fba tba a1 a2 e0 rfl eta uta rfl eba uba) (cwV 2 hts gX8_part_X8_vesselAt rfl rfl rfl (by decide +kernel) ⟨Nat.le_of_ble_eq_true rfl, Nat.le_of_ble_eq_true rfl⟩) ⟨fun a U g mk q => ⟨q.1, q.2.1, va_K.moved (u := U) (U := U.calling g mk a) (Vm.Alike.refl U.vm) q.2.2⟩, va_recv hK hP (ci := 8) (q0 := k0) rfl e0, fun U hU hW => ⟨rfl, by rw [hU]; exact hP, va_K.moved hW.alike hK⟩⟩ rfl rfl hl.1 rfl (lv_room (Nat.le_of_ble_eq_true rfl)) dX8_part_3 ⟨Nat.le_of_ble_eq_true rfl, Nat.le_of_ble_eq_true rfl⟩) (fun r_1 k_2 => ?_)
  have hz_3 := vesx hnum.2.1 hta1 hba0 hba1 k_2
  rcases hz_3 with ⟨rfl, rn_4⟩ | ⟨rn_4, hr_5, v_6, rfl, hV_7⟩
  · refine tp_v (y := .null) rfl ?_
    refine lv_astoreN (lv' := [(4, .null), (0, .ref h0), (1, .int a1), (2, .int a2), (3, .int a3)]) hx hb dX8_part_6 hl (by decide) rfl (fun ls hl => ?_)
    refine lv_aloadN hx hb dX8_part_8 (lv_at hl 0 rfl) ?_
    refine lv_ifnullN (tgt := 21) hx hb dX8_part_10 (by decide) ?_
    refine lv_iconst (v := (-1)) hx hb dX8_part_21 (by decide) ?_
    exact W.iret (v := (-1)) hx hb hr (fun t ht hW => ⟨⟨(-1), (), rfl, Or.inl ⟨Or.inl rn_4, rfl⟩, ws, tys, htx, by rw [ht]; exact hP, va_K.moved hW.alike hK, hD, X⟩, hS.F ht⟩) hS.2.2 dX8_part_22
  obtain ⟨k_9, g_10, e_11, wk_12, k_13, c9_14, t_15, f_16, e_17, u_18, wr_19, g_20⟩ := hV_7
  refine tp_v (y := .ref v_6) rfl ?_
  refine lv_astore (lv' := [(4, .ref v_6), (0, .ref h0), (1, .int a1), (2, .int a2), (3, .int a3)]) hx hb dX8_part_6 hl (by decide) rfl (fun ls hl => ?_)
  refine lv_aload hx hb dX8_part_8 (lv_at hl 0 rfl) ?_
  refine lv_ifnull hx hb dX8_part_10 ?_
  refine lv_aload_n hx hb dX8_part_13 rfl (lv_at hl 1 rfl) ?_
  refine lv_iload_n hx hb dX8_part_14 rfl (lv_at hl 4 rfl) ?_
  refine va_csq (W.runV (As := [.int a3]) (rest := []) ⟨hx, hb, hml, hown, hts⟩ (s_X8_lotAt l D ws tys h0 k0 _ la kla cla fla tla a3 e0 rfl ela ula) (cwV 1 hts gX8_part_X8_lotAt rfl rfl rfl (by decide +kernel) ⟨Nat.le_of_ble_eq_true rfl, Nat.le_of_ble_eq_true rfl⟩) ⟨fun a U g mk q => ⟨q.1, q.2.1, va_K.moved (u := U) (U := U.calling g mk a) (Vm.Alike.refl U.vm) q.2.2⟩, va_recv hK hP (ci := 8) (q0 := k0) rfl e0, fun U hU hW => ⟨rfl, by rw [hU]; exact hP, va_K.moved hW.alike hK⟩⟩ rfl rfl hl.1 rfl (lv_room (Nat.le_of_ble_eq_true rfl)) dX8_part_15 ⟨Nat.le_of_ble_eq_true rfl, Nat.le_of_ble_eq_true rfl⟩) (fun r_21 k_22 => ?_)
  have hz_23 := lotx hlc hla0 hla1 k_22
  rcases hz_23 with ⟨rfl, o_24⟩ | ⟨a_25, b_26, hj_27, v_28, rfl, hg_29, hL_30⟩
  · refine tp_v (y := .null) rfl ?_
    refine lv_ifnonnullN hx hb dX8_part_18 ?_
    refine lv_iconst (v := (-1)) hx hb dX8_part_21 (by decide) ?_
    exact W.iret (v := (-1)) hx hb hr (fun t ht hW => ⟨⟨(-1), (), rfl, Or.inl ⟨Or.inr o_24, rfl⟩, ws, tys, htx, by rw [ht]; exact hP, va_K.moved hW.alike hK, hD, X⟩, hS.F ht⟩) hS.2.2 dX8_part_22
  obtain ⟨k_31, lo_32, hi_33, st_34, e_35, wk_36, ⟨k_42, c9_43, t_44, f_45, e_46, u_47, wr_48, g_49⟩, ⟨k_50, c9_51, t_52, f_53, e_54, u_55, wr_56, g_57⟩, ks_37, ga_38, gb_39, es_40, wks_41, ⟨k_58, c9_59, t_60, f_61, e_62, u_63, wr_64, g_65⟩, ⟨k_66, c9_67, t_68, f_69, e_70, u_71, wr_72, g_73⟩⟩ := hL_30
  refine tp_v (y := .ref v_28) rfl ?_
  refine lv_ifnonnull (tgt := 23) hx hb dX8_part_18 (by decide) ?_
  refine lv_aload hx hb dX8_part_23 (lv_at hl 0 rfl) ?_
  refine lv_iload_n hx hb dX8_part_25 rfl (lv_at hl 4 rfl) ?_
  refine vp_callSi (W.runV (As := [.int a3]) (rest := []) ⟨hx, hb, hml, hown, hts⟩ (s_gramsOf l D ws tys v_6 k_9 (mall (fv 9) (rowI a1 a2) 40) (fv 10 (rowI a1 a2)) (fv 11 (rowI a1 a2)) (fv 12 (rowI a1 a2)) g_10 k_13 c9_14 t_15 f_16 a3 e_11 e_17 u_18) (cwV 1 hts gX8_part_X7_gramsOf rfl rfl rfl (by decide +kernel) ⟨Nat.le_of_ble_eq_true rfl, Nat.le_of_ble_eq_true rfl⟩) ⟨fun a U g mk q => ⟨q.1, q.2.1, va_K.moved (u := U) (U := U.calling g mk a) (Vm.Alike.refl U.vm) q.2.2⟩, va_recv hK hP (ci := 7) (q0 := k_9) rfl e_11, fun U hU hW => ⟨rfl, by rw [hU]; exact hP, va_K.moved hW.alike hK⟩⟩ rfl rfl hl.1 rfl (lv_room (Nat.le_of_ble_eq_true rfl)) dX8_part_26 ⟨Nat.le_of_ble_eq_true rfl, Nat.le_of_ble_eq_true rfl⟩) (fun r_74 k_75 => ?_)
  obtain rfl : r_74 = fv 9 (40 * (rowI a1 a2) + a3.toNatClampNeg) := by rcases k_75 with ⟨-, h9 | h9⟩ | ⟨-, -, h9⟩; exact absurd h9 a_25; exact absurd h9 (i_not40 hlc b_26); exact h9.trans (g_20 _ (by omega))
  exact W.iret (v := fv 9 (40 * (rowI a1 a2) + a3.toNatClampNeg)) hx hb hr (fun t ht hW => ⟨⟨fv 9 (40 * (rowI a1 a2) + a3.toNatClampNeg), (), rfl, Or.inr ⟨(fun h => Or.elim h rn_4 (fun h => Or.elim h a_25 b_26)), rfl⟩, ws, tys, htx, by rw [ht]; exact hP, va_K.moved hW.alike hK, hD, X⟩, hS.F ht⟩) hS.2.2 dX8_part_29
theorem fc_o {a : Int32} {fc : Nat} (h : fc ≤ 60) : (nI fc - 1 < a → nI fc ≤ a) ∧ (¬ nI fc - 1 < a → ¬ nI fc ≤ a) := by
  have e : (nI fc - 1).toInt = (fc : Int) - 1 := pk_sub_toInt (a := fc) (b := 1) (by omega) (by omega)
  rw [i_lt, i_le, e, nI_toInt (by omega)]
  constructor <;> intro h <;> omega
set_option maxHeartbeats 4000000 in
set_option maxRecDepth 100000 in
theorem h_found (l : Launch) (D : va_G) (ρ : Nat → Nat) (ws : va_W) (tys : List (ClassId × FieldType)) (fv : Nat → Nat → Int32) (h0 lc bc rc fc : Nat) (dn : Int32) (tl : Nat) (a1 : Int32) (sz : Nat) (X : XI ρ fv ws tys h0 lc bc rc fc dn tl) : Met l yX8_found wsX8_found ({ frames := 1, cells := 0, slots := 0, locals := 22 }) (va_Pc [.ref h0, .int a1] (fun U => U.heap.size = sz ∧ va_P D vwCl ws U.heap ∧ va_K D vwCl tys U ∧ va_D (fun _ => True) ws)) (va_Qi (fun (r : Int32) (_ : Unit) => ((a1 < 0 ∨ nI fc ≤ a1) ∧ r = (-1)) ∨ (¬ (a1 < 0 ∨ nI fc ≤ a1) ∧ r = fv 42 a1.toNatClampNeg)) (fun (_ : Unit) (t : State) => ∃ (ws' : va_W) (tys' : List (ClassId × FieldType)), tyx tys tys' ∧ va_P D vwCl ws' t.heap ∧ va_K D vwCl tys' t ∧ va_D (va_A ws sz) ws' ∧ (XI ρ fv ws' tys' h0 lc bc rc fc dn tl)) (va_A ws sz)) 0 0 (va_A ws sz) := by
  refine Met.ofW (cc := cX8_found) (maxL := 2) (ret := (some .int)) (by decide) rfl ?_
  intro p e s m args below meth c s₁ B hml hv
  obtain ⟨rfl, hsz, hP, hK, hD0⟩ := hv
  have hx := B.exec
  have hb := B.bytes
  have hr := B.returns
  have hts := atoms_spec (ws := wsX8_found) B.pre
  have hown : s.vm.findClass RX8 = some m.cls := findClass_of_methodNamed B.named
  have hlocks := B.notSynchronized
  subst hsz
  have hD := hD0.self (sz := s.heap.size)
  generalize hAe : va_A ws s.heap.size = A at hD ⊢
  have hA : ∀ q : Nat, s.heap.size ≤ q → A q := fun q h => by rw [← hAe]; exact Or.inr h
  have hS : va_S A s.heap s.heap [] := va_S.rf
  have hsm : sm ρ [] ws ws := sm.rf ws
  have htx : tyx tys tys := tyx.rf tys
  have hin8 : ∀ w ∈ u_ws RX8 TX8 15, w ∈ wsX8_found := (fun _ h9 => List.mem_cons_of_mem _ ((List.mem_append_right _ h9)))
  have hl := lv_entry ([.ref h0, .int a1]) (n := 2) (Nat.le_of_ble_eq_true rfl)
  rw [lg_entry_eq]
  generalize (lg_sl ([.ref h0, .int a1]) ++ List.replicate (2 - (lg_sl ([.ref h0, .int a1])).length) Slot.unset).toArray = ls at hl ⊢
  have hl : lv_has ls 2 [(0, .ref h0), (1, .int a1)] := hl
  obtain ⟨k0, la, ta, ba, ra, sn, rd, dr, bl, vd, fb, e0, w0, hle0, hnum, qla, qta, qba, qra, qsn, qrd, qdr, qbl, qvd, qfb⟩ := id X
  obtain ⟨kla, cla, tla, fla, ela, ula, hla0, hla1⟩ := id qla
  have hlc := hnum.1
  obtain ⟨kfb, cfb, tfb, ffb, efb, ufb, wfb, gfb⟩ := id qfb
  refine lv_iload_n hx hb dX8_found_0 rfl (lv_at hl 1 rfl) ?_
  refine lv_iconst (v := 0) hx hb dX8_found_1 (by decide) ?_
  refine lv_aload_n hx hb dX8_found_2 rfl (lv_at hl 0 rfl) ?_
  refine va_get (D := D) (ci := 8) (v := .int (nI fc)) (C := RX8) (T := TX8) (N := 15) hx hb hts hin8 hown hK hP k0 e0 rfl 13 (by decide) (hts (.fieldLink RX8 272 "HoneyHouse" "foundCount" "I") (List.mem_of_getElem? (i := 1) rfl)) (fun _ h9 => h9) rfl dX8_found_3 ?_
  refine lv_iconst (v := 1) hx hb dX8_found_6 (by decide) ?_
  refine lv_isub hx hb dX8_found_7 ?_
  refine vp_callSi (W.runS (As := [.int a1, .int 0, .int ((nI fc) - 1)]) (rest := []) ⟨hx, hb, hml, hown, hts⟩ (s_X8_isIn l a1 0 ((nI fc) - 1)) (va_cwS 3 hts gX8_found_X8_isIn rfl rfl rfl (by decide +kernel) ⟨Nat.le_of_ble_eq_true rfl, Nat.le_of_ble_eq_true rfl⟩) ⟨fun a U g mk q => q, fun U hU hW => ⟨rfl, trivial⟩⟩ rfl rfl hl.1 rfl (lv_room (Nat.le_of_ble_eq_true rfl)) dX8_found_8 ⟨Nat.le_of_ble_eq_true rfl, Nat.le_of_ble_eq_true rfl⟩) (fun r_1 k_2 => ?_)
  rcases k_2 with ⟨rfl, a_3o⟩ | ⟨rfl, a_3, b_4⟩
  · refine lv_if_eq (tgt := 23) hx hb dX8_found_11 (by decide) (fun c_5 => ?_) (fun c_5 => absurd (by decide) c_5)
    refine lv_iconst (v := (-1)) hx hb dX8_found_23 (by decide) ?_
    exact W.iret (v := (-1)) hx hb hr (fun t ht hW => ⟨⟨(-1), (), rfl, Or.inl ⟨a_3o.imp id (fc_o hnum.2.2.2.1).1, rfl⟩, ws, tys, htx, by rw [ht]; exact hP, va_K.moved hW.alike hK, hD, X⟩, hS.F ht⟩) hS.2.2 dX8_found_24
  refine lv_if_eq (tgt := 23) hx hb dX8_found_11 (by decide) (fun c_6 => absurd c_6 (by decide)) (fun c_6 => ?_)
  refine lv_aload_n hx hb dX8_found_14 rfl (lv_at hl 0 rfl) ?_
  refine va_get (D := D) (ci := 8) (v := .ref fb) (C := RX8) (T := TX8) (N := 15) hx hb hts hin8 hown hK hP k0 e0 rfl 9 (by decide) (hts (.fieldLink RX8 62 "HoneyHouse" "foundBatches" "[I") (List.mem_of_getElem? (i := 2) rfl)) (fun _ h9 => h9) rfl dX8_found_15 ?_
  refine lv_iload_n hx hb dX8_found_18 rfl (lv_at hl 1 rfl) ?_
  refine va_iald (f := ffb) (n := 60) hx hb hK hP kfb tfb efb ufb (i_fc hnum.2.2.2.1 a_3 b_4) dX8_found_19 ?_
  refine lv_goto (tgt := 24) hx hb dX8_found_20 (by decide) ?_
  exact W.iret (v := ffb a1.toNatClampNeg) hx hb hr (fun t ht hW => ⟨⟨ffb a1.toNatClampNeg, (), rfl, Or.inr ⟨(fun h => Or.elim h a_3 ((fc_o hnum.2.2.2.1).2 b_4)), gfb _ (by have h9 := (x_lot (v := a1) (n := fc) (fun h => Or.elim h a_3 ((fc_o hnum.2.2.2.1).2 b_4)) (by omega)).2; exact h9)⟩, ws, tys, htx, by rw [ht]; exact hP, va_K.moved hW.alike hK, hD, X⟩, hS.F ht⟩) hS.2.2 dX8_found_24
