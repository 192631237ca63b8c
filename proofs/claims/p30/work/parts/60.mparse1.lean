theorem dX9_number_0 : decode cX9_number 0 = .ok (.aload_n 0, 1) := by decide +kernel
theorem dX9_number_1 : decode cX9_number 1 = .ok (.invokevirtual 191, 3) := by decide +kernel
theorem dX9_number_4 : decode cX9_number 4 = .ok (.invokestatic 235, 3) := by decide +kernel
theorem dX9_number_7 : decode cX9_number 7 = .ok (.ifCond .ne 14, 3) := by decide +kernel
theorem dX9_number_10 : decode cX9_number 10 = .ok (.aload_n 0, 1) := by decide +kernel
theorem dX9_number_11 : decode cX9_number 11 = .ok (.iconst 1, 1) := by decide +kernel
theorem dX9_number_12 : decode cX9_number 12 = .ok (.aload_n 0, 1) := by decide +kernel
theorem dX9_number_13 : decode cX9_number 13 = .ok (.getfield 87, 3) := by decide +kernel
theorem dX9_number_16 : decode cX9_number 16 = .ok (.invokevirtual 195, 3) := by decide +kernel
theorem dX9_number_19 : decode cX9_number 19 = .ok (.iconst 0, 1) := by decide +kernel
theorem dX9_number_20 : decode cX9_number 20 = .ok (.ireturn, 1) := by decide +kernel
theorem dX9_number_21 : decode cX9_number 21 = .ok (.aload_n 0, 1) := by decide +kernel
theorem dX9_number_22 : decode cX9_number 22 = .ok (.getfield 87, 3) := by decide +kernel
theorem dX9_number_25 : decode cX9_number 25 = .ok (.istore_n 2, 1) := by decide +kernel
theorem dX9_number_26 : decode cX9_number 26 = .ok (.iconst 0, 1) := by decide +kernel
theorem dX9_number_27 : decode cX9_number 27 = .ok (.istore_n 3, 1) := by decide +kernel
theorem dX9_number_28 : decode cX9_number 28 = .ok (.iconst 0, 1) := by decide +kernel
theorem dX9_number_29 : decode cX9_number 29 = .ok (.istore 4, 2) := by decide +kernel
theorem dX9_number_31 : decode cX9_number 31 = .ok (.aload_n 0, 1) := by decide +kernel
theorem dX9_number_32 : decode cX9_number 32 = .ok (.getfield 87, 3) := by decide +kernel
theorem dX9_number_35 : decode cX9_number 35 = .ok (.aload_n 0, 1) := by decide +kernel
theorem dX9_number_36 : decode cX9_number 36 = .ok (.getfield 90, 3) := by decide +kernel
theorem dX9_number_39 : decode cX9_number 39 = .ok (.if_icmp .ge 74, 3) := by decide +kernel
theorem dX9_number_42 : decode cX9_number 42 = .ok (.aload_n 0, 1) := by decide +kernel
theorem dX9_number_43 : decode cX9_number 43 = .ok (.getfield 7, 3) := by decide +kernel
theorem dX9_number_46 : decode cX9_number 46 = .ok (.aload_n 0, 1) := by decide +kernel
theorem dX9_number_47 : decode cX9_number 47 = .ok (.getfield 87, 3) := by decide +kernel
theorem dX9_number_50 : decode cX9_number 50 = .ok (.iaload, 1) := by decide +kernel
theorem dX9_number_51 : decode cX9_number 51 = .ok (.invokestatic 235, 3) := by decide +kernel
theorem dX9_number_54 : decode cX9_number 54 = .ok (.ifCond .eq 59, 3) := by decide +kernel
theorem dX9_number_57 : decode cX9_number 57 = .ok (.aload_n 0, 1) := by decide +kernel
theorem dX9_number_58 : decode cX9_number 58 = .ok (.getfield 74, 3) := by decide +kernel
theorem dX9_number_61 : decode cX9_number 61 = .ok (.ifCond .ne 52, 3) := by decide +kernel
theorem dX9_number_64 : decode cX9_number 64 = .ok (.iload 4, 2) := by decide +kernel
theorem dX9_number_66 : decode cX9_number 66 = .ok (.iconst 5, 1) := by decide +kernel
theorem dX9_number_67 : decode cX9_number 67 = .ok (.if_icmp .ne 12, 3) := by decide +kernel
theorem dX9_number_70 : decode cX9_number 70 = .ok (.aload_n 0, 1) := by decide +kernel
theorem dX9_number_71 : decode cX9_number 71 = .ok (.iconst 1, 1) := by decide +kernel
theorem dX9_number_72 : decode cX9_number 72 = .ok (.aload_n 0, 1) := by decide +kernel
theorem dX9_number_73 : decode cX9_number 73 = .ok (.getfield 87, 3) := by decide +kernel
theorem dX9_number_76 : decode cX9_number 76 = .ok (.invokevirtual 195, 3) := by decide +kernel
theorem dX9_number_79 : decode cX9_number 79 = .ok (.bipush 10, 2) := by decide +kernel
theorem dX9_number_81 : decode cX9_number 81 = .ok (.iload_n 3, 1) := by decide +kernel
theorem dX9_number_82 : decode cX9_number 82 = .ok (.imul, 1) := by decide +kernel
theorem dX9_number_83 : decode cX9_number 83 = .ok (.aload_n 0, 1) := by decide +kernel
theorem dX9_number_84 : decode cX9_number 84 = .ok (.getfield 7, 3) := by decide +kernel
theorem dX9_number_87 : decode cX9_number 87 = .ok (.aload_n 0, 1) := by decide +kernel
theorem dX9_number_88 : decode cX9_number 88 = .ok (.getfield 87, 3) := by decide +kernel
theorem dX9_number_91 : decode cX9_number 91 = .ok (.iaload, 1) := by decide +kernel
theorem dX9_number_92 : decode cX9_number 92 = .ok (.iadd, 1) := by decide +kernel
theorem dX9_number_93 : decode cX9_number 93 = .ok (.bipush 48, 2) := by decide +kernel
theorem dX9_number_95 : decode cX9_number 95 = .ok (.isub, 1) := by decide +kernel
theorem dX9_number_96 : decode cX9_number 96 = .ok (.istore_n 3, 1) := by decide +kernel
theorem dX9_number_97 : decode cX9_number 97 = .ok (.aload_n 0, 1) := by decide +kernel
theorem dX9_number_98 : decode cX9_number 98 = .ok (.dup, 1) := by decide +kernel
theorem dX9_number_99 : decode cX9_number 99 = .ok (.getfield 87, 3) := by decide +kernel
theorem dX9_number_102 : decode cX9_number 102 = .ok (.iconst 1, 1) := by decide +kernel
theorem dX9_number_103 : decode cX9_number 103 = .ok (.iadd, 1) := by decide +kernel
theorem dX9_number_104 : decode cX9_number 104 = .ok (.putfield 87, 3) := by decide +kernel
theorem dX9_number_107 : decode cX9_number 107 = .ok (.iinc 4 1, 3) := by decide +kernel
theorem dX9_number_110 : decode cX9_number 110 = .ok (.goto (-79), 3) := by decide +kernel
theorem dX9_number_113 : decode cX9_number 113 = .ok (.iload_n 3, 1) := by decide +kernel
theorem dX9_number_114 : decode cX9_number 114 = .ok (.iload_n 1, 1) := by decide +kernel
theorem dX9_number_115 : decode cX9_number 115 = .ok (.if_icmp .le 9, 3) := by decide +kernel
theorem dX9_number_118 : decode cX9_number 118 = .ok (.aload_n 0, 1) := by decide +kernel
theorem dX9_number_119 : decode cX9_number 119 = .ok (.iconst 2, 1) := by decide +kernel
theorem dX9_number_120 : decode cX9_number 120 = .ok (.iload_n 2, 1) := by decide +kernel
theorem dX9_number_121 : decode cX9_number 121 = .ok (.invokevirtual 195, 3) := by decide +kernel
theorem dX9_number_124 : decode cX9_number 124 = .ok (.iload_n 3, 1) := by decide +kernel
theorem dX9_number_125 : decode cX9_number 125 = .ok (.ireturn, 1) := by decide +kernel
theorem dX9_name_0 : decode cX9_name 0 = .ok (.aload_n 0, 1) := by decide +kernel
theorem dX9_name_1 : decode cX9_name 1 = .ok (.invokevirtual 191, 3) := by decide +kernel
theorem dX9_name_4 : decode cX9_name 4 = .ok (.invokestatic 226, 3) := by decide +kernel
theorem dX9_name_7 : decode cX9_name 7 = .ok (.ifCond .ne 13, 3) := by decide +kernel
theorem dX9_name_10 : decode cX9_name 10 = .ok (.aload_n 0, 1) := by decide +kernel
theorem dX9_name_11 : decode cX9_name 11 = .ok (.iconst 1, 1) := by decide +kernel
theorem dX9_name_12 : decode cX9_name 12 = .ok (.aload_n 0, 1) := by decide +kernel
theorem dX9_name_13 : decode cX9_name 13 = .ok (.getfield 87, 3) := by decide +kernel
theorem dX9_name_16 : decode cX9_name 16 = .ok (.invokevirtual 195, 3) := by decide +kernel
theorem dX9_name_19 : decode cX9_name 19 = .ok (.return_, 1) := by decide +kernel
theorem dX9_name_20 : decode cX9_name 20 = .ok (.aload_n 0, 1) := by decide +kernel
theorem dX9_name_21 : decode cX9_name 21 = .ok (.invokevirtual 229, 3) := by decide +kernel
theorem dX9_name_24 : decode cX9_name 24 = .ok (.istore_n 1, 1) := by decide +kernel
theorem dX9_name_25 : decode cX9_name 25 = .ok (.aload_n 0, 1) := by decide +kernel
theorem dX9_name_26 : decode cX9_name 26 = .ok (.iload_n 1, 1) := by decide +kernel
theorem dX9_name_27 : decode cX9_name 27 = .ok (.invokevirtual 232, 3) := by decide +kernel
theorem dX9_name_30 : decode cX9_name 30 = .ok (.bipush 11, 2) := by decide +kernel
theorem dX9_name_32 : decode cX9_name 32 = .ok (.if_icmp .eq 12, 3) := by decide +kernel
theorem dX9_name_35 : decode cX9_name 35 = .ok (.aload_n 0, 1) := by decide +kernel
theorem dX9_name_36 : decode cX9_name 36 = .ok (.iconst 1, 1) := by decide +kernel
theorem dX9_name_37 : decode cX9_name 37 = .ok (.aload_n 0, 1) := by decide +kernel
theorem dX9_name_38 : decode cX9_name 38 = .ok (.getfield 87, 3) := by decide +kernel
theorem dX9_name_41 : decode cX9_name 41 = .ok (.invokevirtual 195, 3) := by decide +kernel
theorem dX9_name_44 : decode cX9_name 44 = .ok (.iload_n 1, 1) := by decide +kernel
theorem dX9_name_45 : decode cX9_name 45 = .ok (.aload_n 0, 1) := by decide +kernel
theorem dX9_name_46 : decode cX9_name 46 = .ok (.getfield 87, 3) := by decide +kernel
theorem dX9_name_49 : decode cX9_name 49 = .ok (.isub, 1) := by decide +kernel
theorem dX9_name_50 : decode cX9_name 50 = .ok (.bipush 12, 2) := by decide +kernel
theorem dX9_name_52 : decode cX9_name 52 = .ok (.if_icmp .le 15, 3) := by decide +kernel
theorem dX9_name_55 : decode cX9_name 55 = .ok (.aload_n 0, 1) := by decide +kernel
theorem dX9_name_56 : decode cX9_name 56 = .ok (.iconst 1, 1) := by decide +kernel
theorem dX9_name_57 : decode cX9_name 57 = .ok (.aload_n 0, 1) := by decide +kernel
theorem dX9_name_58 : decode cX9_name 58 = .ok (.getfield 87, 3) := by decide +kernel
theorem dX9_name_61 : decode cX9_name 61 = .ok (.bipush 12, 2) := by decide +kernel
theorem dX9_name_63 : decode cX9_name 63 = .ok (.iadd, 1) := by decide +kernel
theorem dX9_name_64 : decode cX9_name 64 = .ok (.invokevirtual 195, 3) := by decide +kernel
theorem dX9_name_67 : decode cX9_name 67 = .ok (.aload_n 0, 1) := by decide +kernel
theorem dX9_name_68 : decode cX9_name 68 = .ok (.getfield 74, 3) := by decide +kernel
theorem dX9_name_71 : decode cX9_name 71 = .ok (.ifCond .le 4, 3) := by decide +kernel
theorem dX9_name_74 : decode cX9_name 74 = .ok (.return_, 1) := by decide +kernel
theorem dX9_name_75 : decode cX9_name 75 = .ok (.aload_n 0, 1) := by decide +kernel
theorem dX9_name_76 : decode cX9_name 76 = .ok (.getfield 59, 3) := by decide +kernel
theorem dX9_name_79 : decode cX9_name 79 = .ok (.aload_n 0, 1) := by decide +kernel
theorem dX9_name_80 : decode cX9_name 80 = .ok (.getfield 53, 3) := by decide +kernel
theorem dX9_name_83 : decode cX9_name 83 = .ok (.iload_n 1, 1) := by decide +kernel
theorem dX9_name_84 : decode cX9_name 84 = .ok (.aload_n 0, 1) := by decide +kernel
theorem dX9_name_85 : decode cX9_name 85 = .ok (.getfield 87, 3) := by decide +kernel
theorem dX9_name_88 : decode cX9_name 88 = .ok (.isub, 1) := by decide +kernel
theorem dX9_name_89 : decode cX9_name 89 = .ok (.iastore, 1) := by decide +kernel
theorem dX9_name_90 : decode cX9_name 90 = .ok (.iconst 0, 1) := by decide +kernel
theorem dX9_name_91 : decode cX9_name 91 = .ok (.istore_n 2, 1) := by decide +kernel
theorem dX9_name_92 : decode cX9_name 92 = .ok (.aload_n 0, 1) := by decide +kernel
theorem dX9_name_93 : decode cX9_name 93 = .ok (.getfield 87, 3) := by decide +kernel
theorem dX9_name_96 : decode cX9_name 96 = .ok (.iload_n 1, 1) := by decide +kernel
theorem dX9_name_97 : decode cX9_name 97 = .ok (.if_icmp .ge 42, 3) := by decide +kernel
theorem dX9_name_100 : decode cX9_name 100 = .ok (.aload_n 0, 1) := by decide +kernel
theorem dX9_name_101 : decode cX9_name 101 = .ok (.getfield 56, 3) := by decide +kernel
theorem dX9_name_104 : decode cX9_name 104 = .ok (.bipush 12, 2) := by decide +kernel
theorem dX9_name_106 : decode cX9_name 106 = .ok (.aload_n 0, 1) := by decide +kernel
theorem dX9_name_107 : decode cX9_name 107 = .ok (.getfield 53, 3) := by decide +kernel
theorem dX9_name_110 : decode cX9_name 110 = .ok (.imul, 1) := by decide +kernel
theorem dX9_name_111 : decode cX9_name 111 = .ok (.iload_n 2, 1) := by decide +kernel
theorem dX9_name_112 : decode cX9_name 112 = .ok (.iadd, 1) := by decide +kernel
theorem dX9_name_113 : decode cX9_name 113 = .ok (.aload_n 0, 1) := by decide +kernel
theorem dX9_name_114 : decode cX9_name 114 = .ok (.getfield 7, 3) := by decide +kernel
theorem dX9_name_117 : decode cX9_name 117 = .ok (.aload_n 0, 1) := by decide +kernel
theorem dX9_name_118 : decode cX9_name 118 = .ok (.getfield 87, 3) := by decide +kernel
theorem dX9_name_121 : decode cX9_name 121 = .ok (.iaload, 1) := by decide +kernel
theorem dX9_name_122 : decode cX9_name 122 = .ok (.iastore, 1) := by decide +kernel
theorem dX9_name_123 : decode cX9_name 123 = .ok (.aload_n 0, 1) := by decide +kernel
theorem dX9_name_124 : decode cX9_name 124 = .ok (.dup, 1) := by decide +kernel
theorem dX9_name_125 : decode cX9_name 125 = .ok (.getfield 87, 3) := by decide +kernel
theorem dX9_name_128 : decode cX9_name 128 = .ok (.iconst 1, 1) := by decide +kernel
theorem dX9_name_129 : decode cX9_name 129 = .ok (.iadd, 1) := by decide +kernel
theorem dX9_name_130 : decode cX9_name 130 = .ok (.putfield 87, 3) := by decide +kernel
theorem dX9_name_133 : decode cX9_name 133 = .ok (.iinc 2 1, 3) := by decide +kernel
theorem dX9_name_136 : decode cX9_name 136 = .ok (.goto (-44), 3) := by decide +kernel
theorem dX9_name_139 : decode cX9_name 139 = .ok (.return_, 1) := by decide +kernel
theorem dX9_add_0 : decode cX9_add 0 = .ok (.aload_n 0, 1) := by decide +kernel
theorem dX9_add_1 : decode cX9_add 1 = .ok (.getfield 68, 3) := by decide +kernel
theorem dX9_add_4 : decode cX9_add 4 = .ok (.sipush 200, 3) := by decide +kernel
theorem dX9_add_7 : decode cX9_add 7 = .ok (.aload_n 0, 1) := by decide +kernel
theorem dX9_add_8 : decode cX9_add 8 = .ok (.getfield 53, 3) := by decide +kernel
theorem dX9_add_11 : decode cX9_add 11 = .ok (.imul, 1) := by decide +kernel
theorem dX9_add_12 : decode cX9_add 12 = .ok (.aload_n 0, 1) := by decide +kernel
theorem dX9_add_13 : decode cX9_add 13 = .ok (.getfield 102, 3) := by decide +kernel
theorem dX9_add_16 : decode cX9_add 16 = .ok (.iadd, 1) := by decide +kernel
theorem dX9_add_17 : decode cX9_add 17 = .ok (.iload_n 1, 1) := by decide +kernel
theorem dX9_add_18 : decode cX9_add 18 = .ok (.iastore, 1) := by decide +kernel
theorem dX9_add_19 : decode cX9_add 19 = .ok (.aload_n 0, 1) := by decide +kernel
theorem dX9_add_20 : decode cX9_add 20 = .ok (.dup, 1) := by decide +kernel
theorem dX9_add_21 : decode cX9_add 21 = .ok (.getfield 102, 3) := by decide +kernel
theorem dX9_add_24 : decode cX9_add 24 = .ok (.iconst 1, 1) := by decide +kernel
theorem dX9_add_25 : decode cX9_add 25 = .ok (.iadd, 1) := by decide +kernel
theorem dX9_add_26 : decode cX9_add 26 = .ok (.putfield 102, 3) := by decide +kernel
theorem dX9_add_29 : decode cX9_add 29 = .ok (.return_, 1) := by decide +kernel
theorem dX9_test__0 : decode cX9_test_ 0 = .ok (.aload_n 0, 1) := by decide +kernel
theorem dX9_test__1 : decode cX9_test_ 1 = .ok (.invokevirtual 238, 3) := by decide +kernel
theorem dX9_test__4 : decode cX9_test_ 4 = .ok (.istore_n 1, 1) := by decide +kernel
theorem dX9_test__5 : decode cX9_test_ 5 = .ok (.iload_n 1, 1) := by decide +kernel
theorem dX9_test__6 : decode cX9_test_ 6 = .ok (.iconst 4, 1) := by decide +kernel
theorem dX9_test__7 : decode cX9_test_ 7 = .ok (.if_icmp .lt 9, 3) := by decide +kernel
theorem dX9_test__10 : decode cX9_test_ 10 = .ok (.iload_n 1, 1) := by decide +kernel
theorem dX9_test__11 : decode cX9_test_ 11 = .ok (.bipush 8, 2) := by decide +kernel
theorem dX9_test__13 : decode cX9_test_ 13 = .ok (.if_icmp .le 13, 3) := by decide +kernel
theorem dX9_test__16 : decode cX9_test_ 16 = .ok (.aload_n 0, 1) := by decide +kernel
theorem dX9_test__17 : decode cX9_test_ 17 = .ok (.iconst 1, 1) := by decide +kernel
theorem dX9_test__18 : decode cX9_test_ 18 = .ok (.aload_n 0, 1) := by decide +kernel
theorem dX9_test__19 : decode cX9_test_ 19 = .ok (.getfield 87, 3) := by decide +kernel
theorem dX9_test__22 : decode cX9_test_ 22 = .ok (.invokevirtual 195, 3) := by decide +kernel
theorem dX9_test__25 : decode cX9_test_ 25 = .ok (.return_, 1) := by decide +kernel
theorem dX9_test__26 : decode cX9_test_ 26 = .ok (.aload_n 0, 1) := by decide +kernel
theorem dX9_test__27 : decode cX9_test_ 27 = .ok (.aload_n 0, 1) := by decide +kernel
theorem dX9_test__28 : decode cX9_test_ 28 = .ok (.invokevirtual 229, 3) := by decide +kernel
theorem dX9_test__31 : decode cX9_test_ 31 = .ok (.putfield 87, 3) := by decide +kernel
theorem dX9_test__34 : decode cX9_test_ 34 = .ok (.iload_n 1, 1) := by decide +kernel
theorem dX9_test__35 : decode cX9_test_ 35 = .ok (.iconst 4, 1) := by decide +kernel
theorem dX9_test__36 : decode cX9_test_ 36 = .ok (.if_icmp .ne 7, 3) := by decide +kernel
theorem dX9_test__39 : decode cX9_test_ 39 = .ok (.iconst 0, 1) := by decide +kernel
theorem dX9_test__40 : decode cX9_test_ 40 = .ok (.goto 47, 3) := by decide +kernel
theorem dX9_test__43 : decode cX9_test_ 43 = .ok (.iload_n 1, 1) := by decide +kernel
theorem dX9_test__44 : decode cX9_test_ 44 = .ok (.iconst 5, 1) := by decide +kernel
theorem dX9_test__45 : decode cX9_test_ 45 = .ok (.if_icmp .ne 7, 3) := by decide +kernel
theorem dX9_test__48 : decode cX9_test_ 48 = .ok (.iconst 1, 1) := by decide +kernel
theorem dX9_test__49 : decode cX9_test_ 49 = .ok (.goto 38, 3) := by decide +kernel
theorem dX9_test__52 : decode cX9_test_ 52 = .ok (.iload_n 1, 1) := by decide +kernel
theorem dX9_test__53 : decode cX9_test_ 53 = .ok (.bipush 6, 2) := by decide +kernel
theorem dX9_test__55 : decode cX9_test_ 55 = .ok (.if_icmp .ne 7, 3) := by decide +kernel
theorem dX9_test__58 : decode cX9_test_ 58 = .ok (.iconst 2, 1) := by decide +kernel
theorem dX9_test__59 : decode cX9_test_ 59 = .ok (.goto 28, 3) := by decide +kernel
theorem dX9_test__62 : decode cX9_test_ 62 = .ok (.iload_n 1, 1) := by decide +kernel
theorem dX9_test__63 : decode cX9_test_ 63 = .ok (.bipush 7, 2) := by decide +kernel
theorem dX9_test__65 : decode cX9_test_ 65 = .ok (.if_icmp .ne 14, 3) := by decide +kernel
theorem dX9_test__68 : decode cX9_test_ 68 = .ok (.bipush 10, 2) := by decide +kernel
theorem dX9_test__70 : decode cX9_test_ 70 = .ok (.aload_n 0, 1) := by decide +kernel
theorem dX9_test__71 : decode cX9_test_ 71 = .ok (.iconst 4, 1) := by decide +kernel
theorem dX9_test__72 : decode cX9_test_ 72 = .ok (.invokevirtual 241, 3) := by decide +kernel
theorem dX9_test__75 : decode cX9_test_ 75 = .ok (.iadd, 1) := by decide +kernel
theorem dX9_test__76 : decode cX9_test_ 76 = .ok (.goto 11, 3) := by decide +kernel
theorem dX9_test__79 : decode cX9_test_ 79 = .ok (.bipush 30, 2) := by decide +kernel
theorem dX9_test__81 : decode cX9_test_ 81 = .ok (.aload_n 0, 1) := by decide +kernel
theorem dX9_test__82 : decode cX9_test_ 82 = .ok (.iconst 3, 1) := by decide +kernel
theorem dX9_test__83 : decode cX9_test_ 83 = .ok (.invokevirtual 241, 3) := by decide +kernel
theorem dX9_test__86 : decode cX9_test_ 86 = .ok (.iadd, 1) := by decide +kernel
theorem dX9_test__87 : decode cX9_test_ 87 = .ok (.istore_n 2, 1) := by decide +kernel
theorem dX9_test__88 : decode cX9_test_ 88 = .ok (.aload_n 0, 1) := by decide +kernel
theorem dX9_test__89 : decode cX9_test_ 89 = .ok (.getfield 74, 3) := by decide +kernel
theorem dX9_test__92 : decode cX9_test_ 92 = .ok (.ifCond .le 4, 3) := by decide +kernel
theorem dX9_test__95 : decode cX9_test_ 95 = .ok (.return_, 1) := by decide +kernel
theorem dX9_test__96 : decode cX9_test_ 96 = .ok (.aload_n 0, 1) := by decide +kernel
theorem dX9_test__97 : decode cX9_test_ 97 = .ok (.invokevirtual 238, 3) := by decide +kernel
theorem dX9_test__100 : decode cX9_test_ 100 = .ok (.istore_n 3, 1) := by decide +kernel
theorem dX9_test__101 : decode cX9_test_ 101 = .ok (.iload_n 3, 1) := by decide +kernel
theorem dX9_test__102 : decode cX9_test_ 102 = .ok (.bipush 9, 2) := by decide +kernel
theorem dX9_test__104 : decode cX9_test_ 104 = .ok (.if_icmp .eq 19, 3) := by decide +kernel
theorem dX9_test__107 : decode cX9_test_ 107 = .ok (.iload_n 3, 1) := by decide +kernel
theorem dX9_test__108 : decode cX9_test_ 108 = .ok (.bipush 10, 2) := by decide +kernel
theorem dX9_test__110 : decode cX9_test_ 110 = .ok (.if_icmp .eq 13, 3) := by decide +kernel
theorem dX9_test__113 : decode cX9_test_ 113 = .ok (.aload_n 0, 1) := by decide +kernel
theorem dX9_test__114 : decode cX9_test_ 114 = .ok (.iconst 1, 1) := by decide +kernel
theorem dX9_test__115 : decode cX9_test_ 115 = .ok (.aload_n 0, 1) := by decide +kernel
theorem dX9_test__116 : decode cX9_test_ 116 = .ok (.getfield 87, 3) := by decide +kernel
theorem dX9_test__119 : decode cX9_test_ 119 = .ok (.invokevirtual 195, 3) := by decide +kernel
theorem dX9_test__122 : decode cX9_test_ 122 = .ok (.return_, 1) := by decide +kernel
theorem dX9_test__123 : decode cX9_test_ 123 = .ok (.aload_n 0, 1) := by decide +kernel
theorem dX9_test__124 : decode cX9_test_ 124 = .ok (.aload_n 0, 1) := by decide +kernel
theorem dX9_test__125 : decode cX9_test_ 125 = .ok (.invokevirtual 229, 3) := by decide +kernel
theorem dX9_test__128 : decode cX9_test_ 128 = .ok (.putfield 87, 3) := by decide +kernel
theorem dX9_test__131 : decode cX9_test_ 131 = .ok (.aload_n 0, 1) := by decide +kernel
theorem dX9_test__132 : decode cX9_test_ 132 = .ok (.sipush 1000, 3) := by decide +kernel
theorem dX9_test__135 : decode cX9_test_ 135 = .ok (.invokevirtual 241, 3) := by decide +kernel
theorem dX9_test__138 : decode cX9_test_ 138 = .ok (.istore 4, 2) := by decide +kernel
theorem dX9_test__140 : decode cX9_test_ 140 = .ok (.aload_n 0, 1) := by decide +kernel
theorem dX9_test__141 : decode cX9_test_ 141 = .ok (.getfield 74, 3) := by decide +kernel
theorem dX9_test__144 : decode cX9_test_ 144 = .ok (.ifCond .le 4, 3) := by decide +kernel
theorem dX9_test__147 : decode cX9_test_ 147 = .ok (.return_, 1) := by decide +kernel
theorem dX9_test__148 : decode cX9_test_ 148 = .ok (.aload_n 0, 1) := by decide +kernel
theorem dX9_test__149 : decode cX9_test_ 149 = .ok (.bipush 13, 2) := by decide +kernel
theorem dX9_test__151 : decode cX9_test_ 151 = .ok (.invokevirtual 244, 3) := by decide +kernel
theorem dX9_test__154 : decode cX9_test_ 154 = .ok (.aload_n 0, 1) := by decide +kernel
theorem dX9_test__155 : decode cX9_test_ 155 = .ok (.iload_n 2, 1) := by decide +kernel
theorem dX9_test__156 : decode cX9_test_ 156 = .ok (.invokevirtual 244, 3) := by decide +kernel
theorem dX9_test__159 : decode cX9_test_ 159 = .ok (.aload_n 0, 1) := by decide +kernel
theorem dX9_test__160 : decode cX9_test_ 160 = .ok (.iload_n 3, 1) := by decide +kernel
theorem dX9_test__161 : decode cX9_test_ 161 = .ok (.invokevirtual 244, 3) := by decide +kernel
theorem dX9_test__164 : decode cX9_test_ 164 = .ok (.aload_n 0, 1) := by decide +kernel
theorem dX9_test__165 : decode cX9_test_ 165 = .ok (.iload 4, 2) := by decide +kernel
theorem dX9_test__167 : decode cX9_test_ 167 = .ok (.invokevirtual 244, 3) := by decide +kernel
theorem dX9_test__170 : decode cX9_test_ 170 = .ok (.return_, 1) := by decide +kernel
set_option maxRecDepth 20000 in
theorem ggX9_number_X9_here : GoodIn wsX9_number wsX9_here := goodIn_r _ [9, 1, 2, 3, 18, 19, 20, 21, 22, 23, 24, 25, 26, 27, 28, 29, 30, 31, 32, 33, 34, 35, 36, 37, 38, 39, 40, 41, 42, 43, 44, 45, 46, 47, 48, 49, 50, 51, 52, 53, 54, 55, 56, 57, 58, 59, 60, 61] rfl (by decide +kernel)
set_option maxRecDepth 20000 in
theorem gX9_number_X9_here : GoodIn wsX9_number (wsV RX9 191 RX9 yX9_here wsX9_here) := goodIn_app (goodIn_of _ (by decide +kernel)) ggX9_number_X9_here
set_option maxRecDepth 20000 in
theorem ggX9_number_X9_isDigit : GoodIn wsX9_number wsX9_isDigit := goodIn_r _ [12] rfl (by decide +kernel)
set_option maxRecDepth 20000 in
theorem gX9_number_X9_isDigit : GoodIn wsX9_number (va_wsS RX9 235 yX9_isDigit wsX9_isDigit) := goodIn_app (goodIn_of _ (by decide +kernel)) ggX9_number_X9_isDigit
set_option maxRecDepth 20000 in
theorem ggX9_number_X9_blame : GoodIn wsX9_number wsX9_blame := goodIn_r _ [16, 4, 17, 18, 19, 20, 21, 22, 23, 24, 25, 26, 27, 28, 29, 30, 31, 32, 33, 34, 35, 36, 37, 38, 39, 40, 41, 42, 43, 44, 45, 46, 47, 48, 49, 50, 51, 52, 53, 54, 55, 56, 57, 58, 59, 60, 61] rfl (by decide +kernel)
set_option maxRecDepth 20000 in
theorem gX9_number_X9_blame : GoodIn wsX9_number (wsV RX9 195 RX9 yX9_blame wsX9_blame) := goodIn_app (goodIn_of _ (by decide +kernel)) ggX9_number_X9_blame
set_option maxRecDepth 20000 in
theorem ggX9_name_X9_here : GoodIn wsX9_name wsX9_here := goodIn_r _ [11, 1, 12, 6, 45, 46, 47, 48, 49, 50, 51, 52, 53, 54, 55, 56, 57, 58, 59, 60, 61, 62, 63, 64, 65, 66, 67, 68, 69, 70, 71, 72, 73, 74, 75, 76, 77, 78, 79, 80, 81, 82, 83, 84, 85, 86, 87, 88] rfl (by decide +kernel)
set_option maxRecDepth 20000 in
theorem gX9_name_X9_here : GoodIn wsX9_name (wsV RX9 191 RX9 yX9_here wsX9_here) := goodIn_app (goodIn_of _ (by decide +kernel)) ggX9_name_X9_here
set_option maxRecDepth 20000 in
theorem ggX9_name_X9_isLetter : GoodIn wsX9_name wsX9_isLetter := goodIn_r _ [15] rfl (by decide +kernel)
set_option maxRecDepth 20000 in
theorem gX9_name_X9_isLetter : GoodIn wsX9_name (va_wsS RX9 226 yX9_isLetter wsX9_isLetter) := goodIn_app (goodIn_of _ (by decide +kernel)) ggX9_name_X9_isLetter
set_option maxRecDepth 20000 in
theorem ggX9_name_X9_blame : GoodIn wsX9_name wsX9_blame := goodIn_r _ [19, 2, 20, 45, 46, 47, 48, 49, 50, 51, 52, 53, 54, 55, 56, 57, 58, 59, 60, 61, 62, 63, 64, 65, 66, 67, 68, 69, 70, 71, 72, 73, 74, 75, 76, 77, 78, 79, 80, 81, 82, 83, 84, 85, 86, 87, 88] rfl (by decide +kernel)
set_option maxRecDepth 20000 in
theorem gX9_name_X9_blame : GoodIn wsX9_name (wsV RX9 195 RX9 yX9_blame wsX9_blame) := goodIn_app (goodIn_of _ (by decide +kernel)) ggX9_name_X9_blame
set_option maxRecDepth 20000 in
theorem ggX9_name_X9_wordEnd : GoodIn wsX9_name wsX9_wordEnd := goodIn_r _ [24, 1, 12, 6, 13, 14, 10, 15, 45, 46, 47, 48, 49, 50, 51, 52, 53, 54, 55, 56, 57, 58, 59, 60, 61, 62, 63, 64, 65, 66, 67, 68, 69, 70, 71, 72, 73, 74, 75, 76, 77, 78, 79, 80, 81, 82, 83, 84, 85, 86, 87, 88] rfl (by decide +kernel)
set_option maxRecDepth 20000 in
theorem gX9_name_X9_wordEnd : GoodIn wsX9_name (wsV RX9 229 RX9 yX9_wordEnd wsX9_wordEnd) := goodIn_app (goodIn_of _ (by decide +kernel)) ggX9_name_X9_wordEnd
set_option maxRecDepth 20000 in
theorem ggX9_name_X9_word : GoodIn wsX9_name wsX9_word := goodIn_r _ [28, 29, 30, 31, 32, 33, 34, 35, 36, 37, 38, 39, 40, 41, 42, 10, 43, 1, 6, 44, 45, 46, 47, 48, 49, 50, 51, 52, 53, 54, 55, 56, 57, 58, 59, 60, 61, 62, 63, 64, 65, 66, 67, 68, 69, 70, 71, 72, 73, 74, 75, 76, 77, 78, 79, 80, 81, 82, 83, 84, 85, 86, 87, 88] rfl (by decide +kernel)
set_option maxRecDepth 20000 in
theorem gX9_name_X9_word : GoodIn wsX9_name (wsV RX9 232 RX9 yX9_word wsX9_word) := goodIn_app (goodIn_of _ (by decide +kernel)) ggX9_name_X9_word
set_option maxRecDepth 20000 in
theorem ggX9_test__X9_peek : GoodIn wsX9_test_ wsX9_peek := goodIn_r _ [7, 8, 9, 10, 6, 11, 1, 12, 13, 14, 15, 16, 17, 18, 19, 20, 21, 22, 23, 24, 25, 26, 27, 28, 29, 30, 31, 32, 33, 34, 35, 36, 37, 38, 39, 40, 60, 61, 62, 63, 64, 65, 66, 67, 68, 69, 70, 71, 72, 73, 74, 75, 76, 77, 78, 79, 80, 81, 82, 83, 84, 85, 86, 87, 88, 89, 90, 91, 92, 93, 94, 95, 96, 97, 98, 99, 100, 101, 102, 103] rfl (by decide +kernel)
set_option maxRecDepth 20000 in
theorem gX9_test__X9_peek : GoodIn wsX9_test_ (wsV RX9 238 RX9 yX9_peek wsX9_peek) := goodIn_app (goodIn_of _ (by decide +kernel)) ggX9_test__X9_peek
set_option maxRecDepth 20000 in
theorem ggX9_test__X9_blame : GoodIn wsX9_test_ wsX9_blame := goodIn_r _ [44, 2, 45, 60, 61, 62, 63, 64, 65, 66, 67, 68, 69, 70, 71, 72, 73, 74, 75, 76, 77, 78, 79, 80, 81, 82, 83, 84, 85, 86, 87, 88, 89, 90, 91, 92, 93, 94, 95, 96, 97, 98, 99, 100, 101, 102, 103] rfl (by decide +kernel)
set_option maxRecDepth 20000 in
theorem gX9_test__X9_blame : GoodIn wsX9_test_ (wsV RX9 195 RX9 yX9_blame wsX9_blame) := goodIn_app (goodIn_of _ (by decide +kernel)) ggX9_test__X9_blame
set_option maxRecDepth 20000 in
theorem ggX9_test__X9_wordEnd : GoodIn wsX9_test_ wsX9_wordEnd := goodIn_r _ [20, 1, 12, 13, 14, 15, 6, 16, 60, 61, 62, 63, 64, 65, 66, 67, 68, 69, 70, 71, 72, 73, 74, 75, 76, 77, 78, 79, 80, 81, 82, 83, 84, 85, 86, 87, 88, 89, 90, 91, 92, 93, 94, 95, 96, 97, 98, 99, 100, 101, 102, 103] rfl (by decide +kernel)
set_option maxRecDepth 20000 in
theorem gX9_test__X9_wordEnd : GoodIn wsX9_test_ (wsV RX9 229 RX9 yX9_wordEnd wsX9_wordEnd) := goodIn_app (goodIn_of _ (by decide +kernel)) ggX9_test__X9_wordEnd
set_option maxRecDepth 20000 in
theorem ggX9_test__X9_number : GoodIn wsX9_test_ wsX9_number := goodIn_r _ [49, 1, 12, 13, 2, 8, 9, 10, 6, 11, 50, 51, 52, 41, 42, 43, 44, 45, 60, 61, 62, 63, 64, 65, 66, 67, 68, 69, 70, 71, 72, 73, 74, 75, 76, 77, 78, 79, 80, 81, 82, 83, 84, 85, 86, 87, 88, 89, 90, 91, 92, 93, 94, 95, 96, 97, 98, 99, 100, 101, 102, 103] rfl (by decide +kernel)
set_option maxRecDepth 20000 in
theorem gX9_test__X9_number : GoodIn wsX9_test_ (wsV RX9 241 RX9 yX9_number wsX9_number) := goodIn_app (goodIn_of _ (by decide +kernel)) ggX9_test__X9_number
set_option maxRecDepth 20000 in
theorem ggX9_test__X9_add : GoodIn wsX9_test_ wsX9_add := goodIn_r _ [56, 57, 58, 59, 60, 61, 62, 63, 64, 65, 66, 67, 68, 69, 70, 71, 72, 73, 74, 75, 76, 77, 78, 79, 80, 81, 82, 83, 84, 85, 86, 87, 88, 89, 90, 91, 92, 93, 94, 95, 96, 97, 98, 99, 100, 101, 102, 103] rfl (by decide +kernel)
set_option maxRecDepth 20000 in
theorem gX9_test__X9_add : GoodIn wsX9_test_ (wsV RX9 244 RX9 yX9_add wsX9_add) := goodIn_app (goodIn_of _ (by decide +kernel)) ggX9_test__X9_add
theorem n_ne1 {n : Nat} (h : n < 2 ^ 31) : ¬ (-1 : Int32) = nI n := by
  intro e
  have e2 := congrArg Int32.toInt e
  rw [nI_toInt h] at e2
  have : (-1 : Int32).toInt = -1 := by decide
  omega
theorem n_dig {d : Nat} (h : d ≤ 9) : ¬ (nI (48 + d) < 48 ∨ 57 < nI (48 + d)) := by
  rintro (q | q)
  · have := n_lt (a := 48 + d) (b := 48) (by omega) (by omega) q; omega
  · have := n_lt (a := 57) (b := 48 + d) (by omega) (by omega) q; omega
set_option maxHeartbeats 4000000 in
set_option maxRecDepth 100000 in
theorem m_number (l : Launch) (D : va_G) (h0 : Nat) (ad : Nat → Nat) (cs : Nat → ClassId) (iv : Nat → Int32) (fv : Nat → Nat → Int32) (gv : Nat → Int64) (n21 n25 n26 : Nat) (mo : Nat) (sz : Nat) (h21 : iv 21 = nI n21) (h25 : iv 25 = nI n25) (h26 : iv 26 = nI n26) (z21 : n21 = 0) (b25 : n25 ≤ n26) (b26 : n26 ≤ 400) (hmo : mo ≤ 30000) : Met l yX9_number wsX9_number ({ frames := 1, cells := 0, slots := 0, locals := 22 }) (va_Pc [.ref h0, .int (nI mo)] (fun U => U.heap.size = sz ∧ va_P D vwCl (mw h0 ad cs iv fv gv) U.heap ∧ va_K D vwCl (mT cs) U ∧ va_D (fun _ => True) (mw h0 ad cs iv fv gv))) (va_Qi (fun (r u : Int32) => r = u) (fun (r : Int32) (t : State) => ∃ (k21 : Nat) (p22 : Int32) (k25 : Nat), (n25 ≤ k25) ∧ (k25 ≤ n26) ∧ (k21 ≤ 3) ∧ (1 ≤ k21 ∨ (k21 = 0 ∧ n25 + 1 ≤ k25 ∧ ∃ v : Nat, v ≤ mo ∧ r = nI v)) ∧ va_P D vwCl (mw h0 ad cs (upd (upd (upd iv 21 (nI k21)) 22 p22) 25 (nI k25)) fv gv) t.heap ∧ va_K D vwCl (mT cs) t ∧ va_D (va_A (mw h0 ad cs iv fv gv) sz) (mw h0 ad cs (upd (upd (upd iv 21 (nI k21)) 22 p22) 25 (nI k25)) fv gv)) (va_A (mw h0 ad cs iv fv gv) sz)) 0 0 (va_A (mw h0 ad cs iv fv gv) sz) := by
  refine Met.ofW (cc := cX9_number) (maxL := 5) (ret := (some .int)) (by decide) rfl ?_
  intro p e s m args below meth c s₁ B hml hv
  obtain ⟨rfl, hsz, hP, hK, hD0⟩ := hv
  have hx := B.exec
  have hb := B.bytes
  have hr := B.returns
  have hts := atoms_spec (ws := wsX9_number) B.pre
  have hown : s.vm.findClass RX9 = some m.cls := findClass_of_methodNamed B.named
  have hlocks := B.notSynchronized
  subst hsz
  have hD := hD0.self (sz := s.heap.size)
  generalize hAe : va_A (mw h0 ad cs iv fv gv) s.heap.size = A at hD ⊢
  have hA : ∀ q : Nat, s.heap.size ≤ q → A q := fun q h => by rw [← hAe]; exact Or.inr h
  have hS : va_S A s.heap s.heap [] := va_S.rf
  have hin9 : ∀ w ∈ u_ws RX9 TX9 44, w ∈ wsX9_number := (fun _ h9 => List.mem_cons_of_mem _ ((List.mem_append_right _ h9)))
  have hl := lv_entry ([.ref h0, .int (nI mo)]) (n := 5) (Nat.le_of_ble_eq_true rfl)
  rw [lg_entry_eq]
  generalize (lg_sl ([.ref h0, .int (nI mo)]) ++ List.replicate (5 - (lg_sl ([.ref h0, .int (nI mo)])).length) Slot.unset).toArray = ls at hl ⊢
  have hl : lv_has ls 5 [(0, .ref h0), (1, .int (nI mo))] := hl
  refine lv_aload_n hx hb dX9_number_0 rfl (lv_at hl 0 rfl) ?_
  have hFc := free_all hD hS hA
  refine va_calli (va_runV (As := []) (rest := []) ⟨hx, hb, hml, hown, hts⟩ (m_here l D h0 ad cs iv fv gv n25 n26  s.heap.size h25 h26 (by omega) (by omega)) (cwV 0 hts gX9_number_X9_here rfl rfl rfl (by decide +kernel) ⟨Nat.le_of_ble_eq_true rfl, Nat.le_of_ble_eq_true rfl⟩) ⟨fun a U g mk q => by obtain ⟨q0, q1, qP, qK, qD⟩ := q; exact ⟨q0, q1, qP, va_K.moved (u := U) (U := U.calling g mk a) (Vm.Alike.refl U.vm) qK, qD⟩, va_recv hK hP (ci := 9) (q0 := 0) rfl rfl, fun U hU hW => ⟨rfl, by rw [hU], by rw [hU]; exact hP, va_K.moved hW.alike hK, hD.weaken (fun _ _ _ _ => trivial)⟩⟩ rfl rfl hl.1 rfl (lv_room (Nat.le_of_ble_eq_true rfl)) dX9_number_1 ⟨Nat.le_of_ble_eq_true rfl, Nat.le_of_ble_eq_true rfl⟩) hS (fun q _ h => hFc q h) hFc (fun r_1 u t H1 locs ht hvm w_2 hB hz1 hk1 hS => ?_)
  subst w_2
  obtain ⟨k25_3, q_4, q_5, q_6, q_7, q_8, hP1, hK1, hD1⟩ := hB
  rw [ht] at hP1
  have hK := va_K.moved hvm.symm hK1
  generalize H1 = H at hP1 hS ⊢
  have hP : va_P D vwCl (mw h0 ad cs (upd iv 25 (nI k25_3)) fv gv) H := hP1
  have hD : va_D A (mw h0 ad cs (upd iv 25 (nI k25_3)) fv gv) := hD1.weaken (fun _ _ _ h => hFc _ h)
  refine vp_callSi (W.runS (As := [.int r_1]) (rest := []) ⟨hx, hb, hml, hown, hts⟩ (s_X9_isDigit l r_1) (va_cwS 1 hts gX9_number_X9_isDigit rfl rfl rfl (by decide +kernel) ⟨Nat.le_of_ble_eq_true rfl, Nat.le_of_ble_eq_true rfl⟩) ⟨fun a U g mk q => q, fun U hU hW => ⟨rfl, trivial⟩⟩ rfl rfl hl.1 rfl (lv_room (Nat.le_of_ble_eq_true rfl)) dX9_number_4 ⟨Nat.le_of_ble_eq_true rfl, Nat.le_of_ble_eq_true rfl⟩) (fun r_9 k_10 => ?_)
  rcases k_10 with ⟨rfl, nd_11⟩ | ⟨rfl, d_12, hd_13, e_14⟩
  · refine lv_if_ne (tgt := 21) hx hb dX9_number_7 (by decide) (fun c_15 => absurd (by decide) c_15) (fun c_15 => ?_)
    refine lv_aload_n hx hb dX9_number_10 rfl (lv_at hl 0 rfl) ?_
    refine lv_iconst (v := 1) hx hb dX9_number_11 (by decide) ?_
    refine lv_aload_n hx hb dX9_number_12 rfl (lv_at hl 0 rfl) ?_
    refine va_get (D := D) (ci := 9) (v := .int (nI k25_3)) (C := RX9) (T := TX9) (N := 44) hx hb hts hin9 hown hK hP 0 rfl rfl 25 (by decide) (hts (.fieldLink RX9 87 "HoneyHouseModel" "at" "I") (List.mem_of_getElem? (i := 1) rfl)) (fun _ h9 => h9) rfl dX9_number_13 ?_
    have hFc := free_all hD hS hA
    refine va_callv (va_runV (As := [.int 1, .int (nI k25_3)]) (rest := []) ⟨hx, hb, hml, hown, hts⟩ (m_blame l D h0 ad cs (upd iv 25 (nI k25_3)) fv gv n21 1 (nI k25_3) H.size h21 (by omega) (by omega)) (cwV 2 hts gX9_number_X9_blame rfl rfl rfl (by decide +kernel) ⟨Nat.le_of_ble_eq_true rfl, Nat.le_of_ble_eq_true rfl⟩) ⟨fun a U g mk q => by obtain ⟨q0, q1, qP, qK, qD⟩ := q; exact ⟨q0, q1, qP, va_K.moved (u := U) (U := U.calling g mk a) (Vm.Alike.refl U.vm) qK, qD⟩, va_recv hK hP (ci := 9) (q0 := 0) rfl rfl, fun U hU hW => ⟨rfl, by rw [hU], by rw [hU]; exact hP, va_K.moved hW.alike hK, hD.weaken (fun _ _ _ _ => trivial)⟩⟩ rfl rfl hl.1 rfl (lv_room (Nat.le_of_ble_eq_true rfl)) dX9_number_16 ⟨Nat.le_of_ble_eq_true rfl, Nat.le_of_ble_eq_true rfl⟩) hS (fun q _ h => hFc q h) hFc (fun u t H1 locs ht hvm w_17 hB hz1 hk1 hS => ?_)
    obtain ⟨k21_18, p22_19, q_20, q_21, hP1, hK1, hD1⟩ := hB
    rw [ht] at hP1
    have hK := va_K.moved hvm.symm hK1
    generalize H1 = H at hP1 hS ⊢
    have hP : va_P D vwCl (mw h0 ad cs (upd (upd (upd iv 21 (nI k21_18)) 22 p22_19) 25 (nI k25_3)) fv gv) H := hP1
    have hD : va_D A (mw h0 ad cs (upd (upd (upd iv 21 (nI k21_18)) 22 p22_19) 25 (nI k25_3)) fv gv) := hD1.weaken (fun _ _ _ h => hFc _ h)
    refine lv_iconst (v := 0) hx hb dX9_number_19 (by decide) ?_
    have hP : va_P D vwCl (mw h0 ad cs (upd (upd (upd iv 21 (nI k21_18)) 22 p22_19) 25 (nI k25_3)) fv gv) H := hP
    have hD : va_D A (mw h0 ad cs (upd (upd (upd iv 21 (nI k21_18)) 22 p22_19) 25 (nI k25_3)) fv gv) := hD
    exact W.iret (v := 0) hx hb hr (fun t ht hW => ⟨⟨0, 0, rfl, rfl, k21_18, p22_19, k25_3, by omega, by omega, by omega, Or.inl (by omega), by rw [ht]; exact hP, va_K.moved hW.alike hK, hD⟩, hS.F ht⟩) hS.2.2 dX9_number_20
  refine lv_if_ne (tgt := 21) hx hb dX9_number_7 (by decide) (fun c_22 => ?_) (fun c_22 => absurd c_22 (by decide))
  obtain ⟨hs0, hs1⟩ : k25_3 < n26 ∧ fv 0 k25_3 = nI (48 + d_12) := q_8.elim (fun h9 => absurd (h9.1.symm.trans e_14) (n_ne1 (by omega))) (fun h9 => ⟨h9.1, h9.2.symm.trans e_14⟩)
  refine lv_aload_n hx hb dX9_number_21 rfl (lv_at hl 0 rfl) ?_
  refine va_get (D := D) (ci := 9) (v := .int (nI k25_3)) (C := RX9) (T := TX9) (N := 44) hx hb hts hin9 hown hK hP 0 rfl rfl 25 (by decide) (hts (.fieldLink RX9 87 "HoneyHouseModel" "at" "I") (List.mem_of_getElem? (i := 1) rfl)) (fun _ h9 => h9) rfl dX9_number_22 ?_
  refine lv_istore_n (lv' := [(2, .int (nI k25_3)), (0, .ref h0), (1, .int (nI mo))]) hx hb dX9_number_25 rfl hl (by decide) rfl (fun ls hl => ?_)
  refine lv_iconst (v := 0) hx hb dX9_number_26 (by decide) ?_
  refine lv_istore_n (lv' := [(3, .int 0), (2, .int (nI k25_3)), (0, .ref h0), (1, .int (nI mo))]) hx hb dX9_number_27 rfl hl (by decide) rfl (fun ls hl => ?_)
  refine lv_iconst (v := 0) hx hb dX9_number_28 (by decide) ?_
  refine lv_istore (lv' := [(4, .int 0), (3, .int 0), (2, .int (nI k25_3)), (0, .ref h0), (1, .int (nI mo))]) hx hb dX9_number_29 hl (by decide) rfl (fun ls hl => ?_)
  have hP : va_P D vwCl (mw h0 ad cs (upd (upd iv 21 (iv 21)) 25 (nI k25_3)) fv gv) H := hP
  have hD : va_D A (mw h0 ad cs (upd (upd iv 21 (iv 21)) 25 (nI k25_3)) fv gv) := hD
  rw [h21] at hP hD
  refine lp_V (nL := 5) (σ := Nat × Nat × Int32 × Nat × Nat) (lv := fun x9 => [(4, .int (nI x9.2.2.2.2)), (3, .int (nI x9.2.2.2.1)), (2, .int (nI k25_3)), (1, .int (nI mo)), (0, .ref h0)]) (μ := fun x9 => n26 - x9.1) (J := fun x9 ws9 => ws9 = (mw h0 ad cs (upd (upd (upd iv 21 (nI x9.2.1)) 22 x9.2.2.1) 25 (nI x9.1)) fv gv) ∧ (x9.1 = k25_3 + x9.2.2.2.2) ∧ (x9.1 ≤ n26) ∧ (x9.2.1 ≤ 3) ∧ (x9.2.2.2.2 ≤ 5 ∨ 1 ≤ x9.2.1) ∧ ((x9.2.2.2.2 = 0 ∧ x9.2.2.2.1 = 0) ∨ (x9.2.2.2.2 = 1 ∧ x9.2.2.2.1 ≤ 9) ∨ (x9.2.2.2.2 = 2 ∧ x9.2.2.2.1 ≤ 99) ∨ (x9.2.2.2.2 = 3 ∧ x9.2.2.2.1 ≤ 999) ∨ (x9.2.2.2.2 = 4 ∧ x9.2.2.2.1 ≤ 9999) ∨ (x9.2.2.2.2 = 5 ∧ x9.2.2.2.1 ≤ 99999) ∨ (x9.2.2.2.2 = 6 ∧ x9.2.2.2.1 ≤ 999999))) (fun x9 ws9 H locs ls hj hP hD hS hl ih_23 => ?_) (k25_3, n21, iv 22, 0, 0) (mw h0 ad cs (upd (upd iv 21 (nI n21)) 25 (nI k25_3)) fv gv) _ _ ls ⟨rfl, (show k25_3 = k25_3 + 0 from by omega), (show k25_3 ≤ n26 from by omega), (show n21 ≤ 3 from by omega), (show 0 ≤ 5 ∨ 1 ≤ n21 from by omega), (show (0 = 0 ∧ 0 = 0) ∨ (0 = 1 ∧ 0 ≤ 9) ∨ (0 = 2 ∧ 0 ≤ 99) ∨ (0 = 3 ∧ 0 ≤ 999) ∨ (0 = 4 ∧ 0 ≤ 9999) ∨ (0 = 5 ∧ 0 ≤ 99999) ∨ (0 = 6 ∧ 0 ≤ 999999) from by omega)⟩ hP hD hS (lv_sub hl [0, 1, 2, 4, 3] rfl)
  obtain ⟨a_24, k_25, p22_26, v_27, n_28⟩ := x9
  replace hj : ws9 = (mw h0 ad cs (upd (upd (upd iv 21 (nI k_25)) 22 p22_26) 25 (nI a_24)) fv gv) ∧ (a_24 = k25_3 + n_28) ∧ (a_24 ≤ n26) ∧ (k_25 ≤ 3) ∧ (n_28 ≤ 5 ∨ 1 ≤ k_25) ∧ ((n_28 = 0 ∧ v_27 = 0) ∨ (n_28 = 1 ∧ v_27 ≤ 9) ∨ (n_28 = 2 ∧ v_27 ≤ 99) ∨ (n_28 = 3 ∧ v_27 ≤ 999) ∨ (n_28 = 4 ∧ v_27 ≤ 9999) ∨ (n_28 = 5 ∧ v_27 ≤ 99999) ∨ (n_28 = 6 ∧ v_27 ≤ 999999)) := hj
  obtain ⟨rfl, ha_29, hb_30, hk_31, hn_32, hv_33⟩ := hj
  have hl : lv_has ls 5 [(4, .int (nI n_28)), (3, .int (nI v_27)), (2, .int (nI k25_3)), (1, .int (nI mo)), (0, .ref h0)] := hl
  refine lv_aload_n hx hb dX9_number_31 rfl (lv_at hl 4 rfl) ?_
  refine va_get (D := D) (ci := 9) (v := .int (nI a_24)) (C := RX9) (T := TX9) (N := 44) hx hb hts hin9 hown hK hP 0 rfl rfl 25 (by decide) (hts (.fieldLink RX9 87 "HoneyHouseModel" "at" "I") (List.mem_of_getElem? (i := 1) rfl)) (fun _ h9 => h9) rfl dX9_number_32 ?_
  refine lv_aload_n hx hb dX9_number_35 rfl (lv_at hl 4 rfl) ?_
  refine va_get (D := D) (ci := 9) (v := .int (iv 26)) (C := RX9) (T := TX9) (N := 44) hx hb hts hin9 hown hK hP 0 rfl rfl 26 (by decide) (hts (.fieldLink RX9 90 "HoneyHouseModel" "size" "I") (List.mem_of_getElem? (i := 2) rfl)) (fun _ h9 => h9) rfl dX9_number_36 ?_
  refine tp_i (y := nI n26) (h26) ?_
  refine lv_icmp_ge (tgt := 113) hx hb dX9_number_39 (by decide) (fun c_34 => ?_) (fun c_34 => ?_)
  · have d_35 := n_le (a := n26) (b := a_24) (by omega) (by omega) c_34
    refine lv_iload_n hx hb dX9_number_113 rfl (lv_at hl 1 rfl) ?_
    refine lv_iload_n hx hb dX9_number_114 rfl (lv_at hl 3 rfl) ?_
    refine lv_icmp_le (tgt := 124) hx hb dX9_number_115 (by decide) (fun c_36 => ?_) (fun c_36 => ?_)
    · have d_37 := n_le (a := v_27) (b := mo) (by omega) (by omega) c_36
      refine lv_iload_n hx hb dX9_number_124 rfl (lv_at hl 1 rfl) ?_
      have hP : va_P D vwCl (mw h0 ad cs (upd (upd (upd iv 21 (nI k_25)) 22 p22_26) 25 (nI a_24)) fv gv) H := hP
      have hD : va_D A (mw h0 ad cs (upd (upd (upd iv 21 (nI k_25)) 22 p22_26) 25 (nI a_24)) fv gv) := hD
      exact W.iret (v := nI v_27) hx hb hr (fun t ht hW => ⟨⟨nI v_27, nI v_27, rfl, rfl, k_25, p22_26, a_24, by omega, by omega, by omega, (Or.elim (Nat.eq_zero_or_pos k_25) (fun h9 => Or.inr ⟨h9, by omega, v_27, by omega, rfl⟩) (fun h9 => Or.inl h9)), by rw [ht]; exact hP, va_K.moved hW.alike hK, hD⟩, hS.F ht⟩) hS.2.2 dX9_number_125
    have d_38 := n_nle (a := v_27) (b := mo) (by omega) (by omega) c_36
    refine lv_aload_n hx hb dX9_number_118 rfl (lv_at hl 4 rfl) ?_
    refine lv_iconst (v := 2) hx hb dX9_number_119 (by decide) ?_
    refine lv_iload_n hx hb dX9_number_120 rfl (lv_at hl 2 rfl) ?_
    have hFc := free_all hD hS hA
    refine va_callv (va_runV (As := [.int 2, .int (nI k25_3)]) (rest := []) ⟨hx, hb, hml, hown, hts⟩ (m_blame l D h0 ad cs (upd (upd (upd iv 21 (nI k_25)) 22 p22_26) 25 (nI a_24)) fv gv k_25 2 (nI k25_3) H.size rfl (by omega) (by omega)) (cwV 2 hts gX9_number_X9_blame rfl rfl rfl (by decide +kernel) ⟨Nat.le_of_ble_eq_true rfl, Nat.le_of_ble_eq_true rfl⟩) ⟨fun a U g mk q => by obtain ⟨q0, q1, qP, qK, qD⟩ := q; exact ⟨q0, q1, qP, va_K.moved (u := U) (U := U.calling g mk a) (Vm.Alike.refl U.vm) qK, qD⟩, va_recv hK hP (ci := 9) (q0 := 0) rfl rfl, fun U hU hW => ⟨rfl, by rw [hU], by rw [hU]; exact hP, va_K.moved hW.alike hK, hD.weaken (fun _ _ _ _ => trivial)⟩⟩ rfl rfl hl.1 rfl (lv_room (Nat.le_of_ble_eq_true rfl)) dX9_number_121 ⟨Nat.le_of_ble_eq_true rfl, Nat.le_of_ble_eq_true rfl⟩) hS (fun q _ h => hFc q h) hFc (fun u t H1 locs ht hvm w_40 hB hz1 hk1 hS => ?_)
    obtain ⟨k21_41, p22_42, q_43, q_44, hP1, hK1, hD1⟩ := hB
    rw [ht] at hP1
    have hK := va_K.moved hvm.symm hK1
    generalize H1 = H at hP1 hS ⊢
    have hP : va_P D vwCl (mw h0 ad cs (upd (upd (upd iv 21 (nI k21_41)) 22 p22_42) 25 (nI a_24)) fv gv) H := hP1
    have hD : va_D A (mw h0 ad cs (upd (upd (upd iv 21 (nI k21_41)) 22 p22_42) 25 (nI a_24)) fv gv) := hD1.weaken (fun _ _ _ h => hFc _ h)
    refine lv_iload_n hx hb dX9_number_124 rfl (lv_at hl 1 rfl) ?_
    have hP : va_P D vwCl (mw h0 ad cs (upd (upd (upd iv 21 (nI k21_41)) 22 p22_42) 25 (nI a_24)) fv gv) H := hP
    have hD : va_D A (mw h0 ad cs (upd (upd (upd iv 21 (nI k21_41)) 22 p22_42) 25 (nI a_24)) fv gv) := hD
    exact W.iret (v := nI v_27) hx hb hr (fun t ht hW => ⟨⟨nI v_27, nI v_27, rfl, rfl, k21_41, p22_42, a_24, by omega, by omega, by omega, Or.inl (by omega), by rw [ht]; exact hP, va_K.moved hW.alike hK, hD⟩, hS.F ht⟩) hS.2.2 dX9_number_125
  have d_45 := n_nle (a := n26) (b := a_24) (by omega) (by omega) c_34
  refine lv_aload_n hx hb dX9_number_42 rfl (lv_at hl 4 rfl) ?_
  refine va_get (D := D) (ci := 9) (v := .ref (ad 0)) (C := RX9) (T := TX9) (N := 44) hx hb hts hin9 hown hK hP 0 rfl rfl 0 (by decide) (hts (.fieldLink RX9 7 "HoneyHouseModel" "tape" "[I") (List.mem_of_getElem? (i := 3) rfl)) (fun _ h9 => h9) rfl dX9_number_43 ?_
  refine lv_aload_n hx hb dX9_number_46 rfl (lv_at hl 4 rfl) ?_
  refine va_get (D := D) (ci := 9) (v := .int (nI a_24)) (C := RX9) (T := TX9) (N := 44) hx hb hts hin9 hown hK hP 0 rfl rfl 25 (by decide) (hts (.fieldLink RX9 87 "HoneyHouseModel" "at" "I") (List.mem_of_getElem? (i := 1) rfl)) (fun _ h9 => h9) rfl dX9_number_47 ?_
  refine va_iald (f := fv 0) (n := 400) hx hb hK hP 1 0 rfl rfl (vp_in_nI (n := a_24) (by omega) (by omega)) dX9_number_50 ?_
  refine lv_topi (fun z_46 hz_47 => ?_)
  rw [nI_clamp (n := a_24) (by omega)] at hz_47
  refine vp_callSi (W.runS (As := [.int z_46]) (rest := []) ⟨hx, hb, hml, hown, hts⟩ (s_X9_isDigit l z_46) (va_cwS 1 hts gX9_number_X9_isDigit rfl rfl rfl (by decide +kernel) ⟨Nat.le_of_ble_eq_true rfl, Nat.le_of_ble_eq_true rfl⟩) ⟨fun a U g mk q => q, fun U hU hW => ⟨rfl, trivial⟩⟩ rfl rfl hl.1 rfl (lv_room (Nat.le_of_ble_eq_true rfl)) dX9_number_51 ⟨Nat.le_of_ble_eq_true rfl, Nat.le_of_ble_eq_true rfl⟩) (fun r_48 k_49 => ?_)
  rcases k_49 with ⟨rfl, nd_50⟩ | ⟨rfl, d_51, hd_52, e_53⟩
  · refine lv_if_eq (tgt := 113) hx hb dX9_number_54 (by decide) (fun c_54 => ?_) (fun c_54 => absurd (by decide) c_54)
    have hn1 : ¬ n_28 = 0 := fun h9 => absurd nd_50 (by rw [hz_47, show a_24 = k25_3 by omega, hs1]; exact n_dig (by omega))
    refine lv_iload_n hx hb dX9_number_113 rfl (lv_at hl 1 rfl) ?_
    refine lv_iload_n hx hb dX9_number_114 rfl (lv_at hl 3 rfl) ?_
    refine lv_icmp_le (tgt := 124) hx hb dX9_number_115 (by decide) (fun c_55 => ?_) (fun c_55 => ?_)
    · have d_56 := n_le (a := v_27) (b := mo) (by omega) (by omega) c_55
      refine lv_iload_n hx hb dX9_number_124 rfl (lv_at hl 1 rfl) ?_
      have hP : va_P D vwCl (mw h0 ad cs (upd (upd (upd iv 21 (nI k_25)) 22 p22_26) 25 (nI a_24)) fv gv) H := hP
      have hD : va_D A (mw h0 ad cs (upd (upd (upd iv 21 (nI k_25)) 22 p22_26) 25 (nI a_24)) fv gv) := hD
      exact W.iret (v := nI v_27) hx hb hr (fun t ht hW => ⟨⟨nI v_27, nI v_27, rfl, rfl, k_25, p22_26, a_24, by omega, by omega, by omega, (Or.elim (Nat.eq_zero_or_pos k_25) (fun h9 => Or.inr ⟨h9, by omega, v_27, by omega, rfl⟩) (fun h9 => Or.inl h9)), by rw [ht]; exact hP, va_K.moved hW.alike hK, hD⟩, hS.F ht⟩) hS.2.2 dX9_number_125
    have d_57 := n_nle (a := v_27) (b := mo) (by omega) (by omega) c_55
    refine lv_aload_n hx hb dX9_number_118 rfl (lv_at hl 4 rfl) ?_
    refine lv_iconst (v := 2) hx hb dX9_number_119 (by decide) ?_
    refine lv_iload_n hx hb dX9_number_120 rfl (lv_at hl 2 rfl) ?_
    have hFc := free_all hD hS hA
    refine va_callv (va_runV (As := [.int 2, .int (nI k25_3)]) (rest := []) ⟨hx, hb, hml, hown, hts⟩ (m_blame l D h0 ad cs (upd (upd (upd iv 21 (nI k_25)) 22 p22_26) 25 (nI a_24)) fv gv k_25 2 (nI k25_3) H.size rfl (by omega) (by omega)) (cwV 2 hts gX9_number_X9_blame rfl rfl rfl (by decide +kernel) ⟨Nat.le_of_ble_eq_true rfl, Nat.le_of_ble_eq_true rfl⟩) ⟨fun a U g mk q => by obtain ⟨q0, q1, qP, qK, qD⟩ := q; exact ⟨q0, q1, qP, va_K.moved (u := U) (U := U.calling g mk a) (Vm.Alike.refl U.vm) qK, qD⟩, va_recv hK hP (ci := 9) (q0 := 0) rfl rfl, fun U hU hW => ⟨rfl, by rw [hU], by rw [hU]; exact hP, va_K.moved hW.alike hK, hD.weaken (fun _ _ _ _ => trivial)⟩⟩ rfl rfl hl.1 rfl (lv_room (Nat.le_of_ble_eq_true rfl)) dX9_number_121 ⟨Nat.le_of_ble_eq_true rfl, Nat.le_of_ble_eq_true rfl⟩) hS (fun q _ h => hFc q h) hFc (fun u t H1 locs ht hvm w_59 hB hz1 hk1 hS => ?_)
    obtain ⟨k21_60, p22_61, q_62, q_63, hP1, hK1, hD1⟩ := hB
    rw [ht] at hP1
    have hK := va_K.moved hvm.symm hK1
    generalize H1 = H at hP1 hS ⊢
    have hP : va_P D vwCl (mw h0 ad cs (upd (upd (upd iv 21 (nI k21_60)) 22 p22_61) 25 (nI a_24)) fv gv) H := hP1
    have hD : va_D A (mw h0 ad cs (upd (upd (upd iv 21 (nI k21_60)) 22 p22_61) 25 (nI a_24)) fv gv) := hD1.weaken (fun _ _ _ h => hFc _ h)
    refine lv_iload_n hx hb dX9_number_124 rfl (lv_at hl 1 rfl) ?_
    have hP : va_P D vwCl (mw h0 ad cs (upd (upd (upd iv 21 (nI k21_60)) 22 p22_61) 25 (nI a_24)) fv gv) H := hP
    have hD : va_D A (mw h0 ad cs (upd (upd (upd iv 21 (nI k21_60)) 22 p22_61) 25 (nI a_24)) fv gv) := hD
    exact W.iret (v := nI v_27) hx hb hr (fun t ht hW => ⟨⟨nI v_27, nI v_27, rfl, rfl, k21_60, p22_61, a_24, by omega, by omega, by omega, Or.inl (by omega), by rw [ht]; exact hP, va_K.moved hW.alike hK, hD⟩, hS.F ht⟩) hS.2.2 dX9_number_125
  refine lv_if_eq (tgt := 113) hx hb dX9_number_54 (by decide) (fun c_64 => absurd c_64 (by decide)) (fun c_64 => ?_)
  refine lv_aload_n hx hb dX9_number_57 rfl (lv_at hl 4 rfl) ?_
  refine va_get (D := D) (ci := 9) (v := .int (nI k_25)) (C := RX9) (T := TX9) (N := 44) hx hb hts hin9 hown hK hP 0 rfl rfl 21 (by decide) (hts (.fieldLink RX9 74 "HoneyHouseModel" "faultKind" "I") (List.mem_of_getElem? (i := 4) rfl)) (fun _ h9 => h9) rfl dX9_number_58 ?_
  refine lv_if_ne (tgt := 113) hx hb dX9_number_61 (by decide) (fun c_65 => ?_) (fun c_65 => ?_)
  · have d_66 := n_ne (a := k_25) (b := 0) (by omega) (by omega) c_65
    refine lv_iload_n hx hb dX9_number_113 rfl (lv_at hl 1 rfl) ?_
    refine lv_iload_n hx hb dX9_number_114 rfl (lv_at hl 3 rfl) ?_
    refine lv_icmp_le (tgt := 124) hx hb dX9_number_115 (by decide) (fun c_67 => ?_) (fun c_67 => ?_)
    · have d_68 := n_le (a := v_27) (b := mo) (by omega) (by omega) c_67
      refine lv_iload_n hx hb dX9_number_124 rfl (lv_at hl 1 rfl) ?_
      have hP : va_P D vwCl (mw h0 ad cs (upd (upd (upd iv 21 (nI k_25)) 22 p22_26) 25 (nI a_24)) fv gv) H := hP
      have hD : va_D A (mw h0 ad cs (upd (upd (upd iv 21 (nI k_25)) 22 p22_26) 25 (nI a_24)) fv gv) := hD
      exact W.iret (v := nI v_27) hx hb hr (fun t ht hW => ⟨⟨nI v_27, nI v_27, rfl, rfl, k_25, p22_26, a_24, by omega, by omega, by omega, (Or.elim (Nat.eq_zero_or_pos k_25) (fun h9 => Or.inr ⟨h9, by omega, v_27, by omega, rfl⟩) (fun h9 => Or.inl h9)), by rw [ht]; exact hP, va_K.moved hW.alike hK, hD⟩, hS.F ht⟩) hS.2.2 dX9_number_125
    have d_69 := n_nle (a := v_27) (b := mo) (by omega) (by omega) c_67
    refine lv_aload_n hx hb dX9_number_118 rfl (lv_at hl 4 rfl) ?_
    refine lv_iconst (v := 2) hx hb dX9_number_119 (by decide) ?_
    refine lv_iload_n hx hb dX9_number_120 rfl (lv_at hl 2 rfl) ?_
    have hFc := free_all hD hS hA
    refine va_callv (va_runV (As := [.int 2, .int (nI k25_3)]) (rest := []) ⟨hx, hb, hml, hown, hts⟩ (m_blame l D h0 ad cs (upd (upd (upd iv 21 (nI k_25)) 22 p22_26) 25 (nI a_24)) fv gv k_25 2 (nI k25_3) H.size rfl (by omega) (by omega)) (cwV 2 hts gX9_number_X9_blame rfl rfl rfl (by decide +kernel) ⟨Nat.le_of_ble_eq_true rfl, Nat.le_of_ble_eq_true rfl⟩) ⟨fun a U g mk q => by obtain ⟨q0, q1, qP, qK, qD⟩ := q; exact ⟨q0, q1, qP, va_K.moved (u := U) (U := U.calling g mk a) (Vm.Alike.refl U.vm) qK, qD⟩, va_recv hK hP (ci := 9) (q0 := 0) rfl rfl, fun U hU hW => ⟨rfl, by rw [hU], by rw [hU]; exact hP, va_K.moved hW.alike hK, hD.weaken (fun _ _ _ _ => trivial)⟩⟩ rfl rfl hl.1 rfl (lv_room (Nat.le_of_ble_eq_true rfl)) dX9_number_121 ⟨Nat.le_of_ble_eq_true rfl, Nat.le_of_ble_eq_true rfl⟩) hS (fun q _ h => hFc q h) hFc (fun u t H1 locs ht hvm w_71 hB hz1 hk1 hS => ?_)
    obtain ⟨k21_72, p22_73, q_74, q_75, hP1, hK1, hD1⟩ := hB
    rw [ht] at hP1
    have hK := va_K.moved hvm.symm hK1
    generalize H1 = H at hP1 hS ⊢
    have hP : va_P D vwCl (mw h0 ad cs (upd (upd (upd iv 21 (nI k21_72)) 22 p22_73) 25 (nI a_24)) fv gv) H := hP1
    have hD : va_D A (mw h0 ad cs (upd (upd (upd iv 21 (nI k21_72)) 22 p22_73) 25 (nI a_24)) fv gv) := hD1.weaken (fun _ _ _ h => hFc _ h)
    refine lv_iload_n hx hb dX9_number_124 rfl (lv_at hl 1 rfl) ?_
    have hP : va_P D vwCl (mw h0 ad cs (upd (upd (upd iv 21 (nI k21_72)) 22 p22_73) 25 (nI a_24)) fv gv) H := hP
    have hD : va_D A (mw h0 ad cs (upd (upd (upd iv 21 (nI k21_72)) 22 p22_73) 25 (nI a_24)) fv gv) := hD
    exact W.iret (v := nI v_27) hx hb hr (fun t ht hW => ⟨⟨nI v_27, nI v_27, rfl, rfl, k21_72, p22_73, a_24, by omega, by omega, by omega, Or.inl (by omega), by rw [ht]; exact hP, va_K.moved hW.alike hK, hD⟩, hS.F ht⟩) hS.2.2 dX9_number_125
  have d_76 := n_eq (a := k_25) (b := 0) (by omega) (by omega) c_65
  refine lv_iload hx hb dX9_number_64 (lv_at hl 0 rfl) ?_
  refine lv_iconst (v := 5) hx hb dX9_number_66 (by decide) ?_
  refine lv_icmp_ne (tgt := 79) hx hb dX9_number_67 (by decide) (fun c_77 => ?_) (fun c_77 => ?_)
  · have d_78 := n_ne (a := n_28) (b := 5) (by omega) (by omega) c_77
    refine lv_bipush (v := 10) hx hb dX9_number_79 (by decide) ?_
    refine lv_iload_n hx hb dX9_number_81 rfl (lv_at hl 1 rfl) ?_
    refine lv_imul hx hb dX9_number_82 ?_
    refine tp_i (y := nI (10 * v_27)) (pk_mul 10 v_27) ?_
    refine lv_aload_n hx hb dX9_number_83 rfl (lv_at hl 4 rfl) ?_
    refine va_get (D := D) (ci := 9) (v := .ref (ad 0)) (C := RX9) (T := TX9) (N := 44) hx hb hts hin9 hown hK hP 0 rfl rfl 0 (by decide) (hts (.fieldLink RX9 7 "HoneyHouseModel" "tape" "[I") (List.mem_of_getElem? (i := 3) rfl)) (fun _ h9 => h9) rfl dX9_number_84 ?_
    refine lv_aload_n hx hb dX9_number_87 rfl (lv_at hl 4 rfl) ?_
    refine va_get (D := D) (ci := 9) (v := .int (nI a_24)) (C := RX9) (T := TX9) (N := 44) hx hb hts hin9 hown hK hP 0 rfl rfl 25 (by decide) (hts (.fieldLink RX9 87 "HoneyHouseModel" "at" "I") (List.mem_of_getElem? (i := 1) rfl)) (fun _ h9 => h9) rfl dX9_number_88 ?_
    refine va_iald (f := fv 0) (n := 400) hx hb hK hP 1 0 rfl rfl (vp_in_nI (n := a_24) (by omega) (by omega)) dX9_number_91 ?_
    refine lv_topi (fun z_79 hz_80 => ?_)
    rw [nI_clamp (n := a_24) (by omega)] at hz_80
    have e_z_79 : z_79 = nI (48 + d_51) := hz_80.trans (hz_47.symm.trans e_53)
    rw [e_z_79]
    refine lv_iadd hx hb dX9_number_92 ?_
    refine tp_i (y := nI ((10 * v_27) + (48 + d_51))) (nI_add (10 * v_27) (48 + d_51)) ?_
    refine lv_bipush (v := 48) hx hb dX9_number_93 (by decide) ?_
    refine lv_isub hx hb dX9_number_95 ?_
    refine tp_i (y := nI (((10 * v_27) + (48 + d_51)) - 48)) (pk_sub (a := (10 * v_27) + (48 + d_51)) (b := 48) (by omega)) ?_
    refine lv_istore_n (lv' := [(3, .int (nI (((10 * v_27) + (48 + d_51)) - 48))), (4, .int (nI n_28)), (2, .int (nI k25_3)), (1, .int (nI mo)), (0, .ref h0)]) hx hb dX9_number_96 rfl hl (by decide) rfl (fun ls hl => ?_)
    refine lv_aload_n hx hb dX9_number_97 rfl (lv_at hl 4 rfl) ?_
    refine lv_dup hx hb dX9_number_98 rfl ?_
    refine va_get (D := D) (ci := 9) (v := .int (nI a_24)) (C := RX9) (T := TX9) (N := 44) hx hb hts hin9 hown hK hP 0 rfl rfl 25 (by decide) (hts (.fieldLink RX9 87 "HoneyHouseModel" "at" "I") (List.mem_of_getElem? (i := 1) rfl)) (fun _ h9 => h9) rfl dX9_number_99 ?_
    refine lv_iconst (v := 1) hx hb dX9_number_102 (by decide) ?_
    refine lv_iadd hx hb dX9_number_103 ?_
    refine tp_i (y := nI (a_24 + 1)) (nI_add a_24 1) ?_
    refine va_put (D := D) (ci := 9) (v := .int (nI (a_24 + 1))) (ty := .int) (C := RX9) (T := TX9) (N := 44) hx hb hts hin9 tyX9 tyX9_ok nmX9 hown hK hP hD hS 0 rfl rfl 25 (by decide) (hts (.fieldLink RX9 87 "HoneyHouseModel" "at" "I") (List.mem_of_getElem? (i := 1) rfl)) (fun _ h9 => h9) rfl (tyX9_ok 25 (by decide)) rfl rfl (Nat.le_of_ble_eq_true rfl) dX9_number_104 (fun H locs hP hD hS => ?_)
    have hP : va_P D vwCl (mw h0 ad cs (upd (upd (upd iv 21 (nI k_25)) 22 p22_26) 25 (nI (a_24 + 1))) fv gv) H := hP
    have hD : va_D A (mw h0 ad cs (upd (upd (upd iv 21 (nI k_25)) 22 p22_26) 25 (nI (a_24 + 1))) fv gv) := hD
    refine lv_iinc (v := nI (n_28 + 1)) (lv' := [(4, .int (nI (n_28 + 1))), (3, .int (nI (((10 * v_27) + (48 + d_51)) - 48))), (2, .int (nI k25_3)), (1, .int (nI mo)), (0, .ref h0)]) hx hb dX9_number_107 hl (k := 1) rfl (nI_add n_28 1) (by decide) rfl (fun ls hl => ?_)
    refine lv_goto (tgt := 31) hx hb dX9_number_110 (by decide) ?_
    exact ih_23 (a_24 + 1, k_25, p22_26, ((10 * v_27) + (48 + d_51)) - 48, n_28 + 1) (mw h0 ad cs (upd (upd (upd iv 21 (nI k_25)) 22 p22_26) 25 (nI (a_24 + 1))) fv gv) _ _ ls (by show n26 - (a_24 + 1) < n26 - a_24; omega) ⟨rfl, (show (a_24 + 1) = k25_3 + (n_28 + 1) from by omega), (show (a_24 + 1) ≤ n26 from by omega), (show k_25 ≤ 3 from by omega), (show (n_28 + 1) ≤ 5 ∨ 1 ≤ k_25 from by omega), (show ((n_28 + 1) = 0 ∧ (((10 * v_27) + (48 + d_51)) - 48) = 0) ∨ ((n_28 + 1) = 1 ∧ (((10 * v_27) + (48 + d_51)) - 48) ≤ 9) ∨ ((n_28 + 1) = 2 ∧ (((10 * v_27) + (48 + d_51)) - 48) ≤ 99) ∨ ((n_28 + 1) = 3 ∧ (((10 * v_27) + (48 + d_51)) - 48) ≤ 999) ∨ ((n_28 + 1) = 4 ∧ (((10 * v_27) + (48 + d_51)) - 48) ≤ 9999) ∨ ((n_28 + 1) = 5 ∧ (((10 * v_27) + (48 + d_51)) - 48) ≤ 99999) ∨ ((n_28 + 1) = 6 ∧ (((10 * v_27) + (48 + d_51)) - 48) ≤ 999999) from by omega)⟩ hP hD hS (lv_sub hl [0, 1, 2, 3, 4] rfl)
  have d_81 := n_eq (a := n_28) (b := 5) (by omega) (by omega) c_77
  refine lv_aload_n hx hb dX9_number_70 rfl (lv_at hl 4 rfl) ?_
  refine lv_iconst (v := 1) hx hb dX9_number_71 (by decide) ?_
  refine lv_aload_n hx hb dX9_number_72 rfl (lv_at hl 4 rfl) ?_
  refine va_get (D := D) (ci := 9) (v := .int (nI a_24)) (C := RX9) (T := TX9) (N := 44) hx hb hts hin9 hown hK hP 0 rfl rfl 25 (by decide) (hts (.fieldLink RX9 87 "HoneyHouseModel" "at" "I") (List.mem_of_getElem? (i := 1) rfl)) (fun _ h9 => h9) rfl dX9_number_73 ?_
  have hFc := free_all hD hS hA
  refine va_callv (va_runV (As := [.int 1, .int (nI a_24)]) (rest := []) ⟨hx, hb, hml, hown, hts⟩ (m_blame l D h0 ad cs (upd (upd (upd iv 21 (nI k_25)) 22 p22_26) 25 (nI a_24)) fv gv k_25 1 (nI a_24) H.size rfl (by omega) (by omega)) (cwV 2 hts gX9_number_X9_blame rfl rfl rfl (by decide +kernel) ⟨Nat.le_of_ble_eq_true rfl, Nat.le_of_ble_eq_true rfl⟩) ⟨fun a U g mk q => by obtain ⟨q0, q1, qP, qK, qD⟩ := q; exact ⟨q0, q1, qP, va_K.moved (u := U) (U := U.calling g mk a) (Vm.Alike.refl U.vm) qK, qD⟩, va_recv hK hP (ci := 9) (q0 := 0) rfl rfl, fun U hU hW => ⟨rfl, by rw [hU], by rw [hU]; exact hP, va_K.moved hW.alike hK, hD.weaken (fun _ _ _ _ => trivial)⟩⟩ rfl rfl hl.1 rfl (lv_room (Nat.le_of_ble_eq_true rfl)) dX9_number_76 ⟨Nat.le_of_ble_eq_true rfl, Nat.le_of_ble_eq_true rfl⟩) hS (fun q _ h => hFc q h) hFc (fun u t H1 locs ht hvm w_83 hB hz1 hk1 hS => ?_)
  obtain ⟨k21_84, p22_85, q_86, q_87, hP1, hK1, hD1⟩ := hB
  rw [ht] at hP1
  have hK := va_K.moved hvm.symm hK1
  generalize H1 = H at hP1 hS ⊢
  have hP : va_P D vwCl (mw h0 ad cs (upd (upd (upd iv 21 (nI k21_84)) 22 p22_85) 25 (nI a_24)) fv gv) H := hP1
  have hD : va_D A (mw h0 ad cs (upd (upd (upd iv 21 (nI k21_84)) 22 p22_85) 25 (nI a_24)) fv gv) := hD1.weaken (fun _ _ _ h => hFc _ h)
  refine lv_bipush (v := 10) hx hb dX9_number_79 (by decide) ?_
  refine lv_iload_n hx hb dX9_number_81 rfl (lv_at hl 1 rfl) ?_
  refine lv_imul hx hb dX9_number_82 ?_
  refine tp_i (y := nI (10 * v_27)) (pk_mul 10 v_27) ?_
  refine lv_aload_n hx hb dX9_number_83 rfl (lv_at hl 4 rfl) ?_
  refine va_get (D := D) (ci := 9) (v := .ref (ad 0)) (C := RX9) (T := TX9) (N := 44) hx hb hts hin9 hown hK hP 0 rfl rfl 0 (by decide) (hts (.fieldLink RX9 7 "HoneyHouseModel" "tape" "[I") (List.mem_of_getElem? (i := 3) rfl)) (fun _ h9 => h9) rfl dX9_number_84 ?_
  refine lv_aload_n hx hb dX9_number_87 rfl (lv_at hl 4 rfl) ?_
  refine va_get (D := D) (ci := 9) (v := .int (nI a_24)) (C := RX9) (T := TX9) (N := 44) hx hb hts hin9 hown hK hP 0 rfl rfl 25 (by decide) (hts (.fieldLink RX9 87 "HoneyHouseModel" "at" "I") (List.mem_of_getElem? (i := 1) rfl)) (fun _ h9 => h9) rfl dX9_number_88 ?_
  refine va_iald (f := fv 0) (n := 400) hx hb hK hP 1 0 rfl rfl (vp_in_nI (n := a_24) (by omega) (by omega)) dX9_number_91 ?_
  refine lv_topi (fun z_88 hz_89 => ?_)
  rw [nI_clamp (n := a_24) (by omega)] at hz_89
  have e_z_88 : z_88 = nI (48 + d_51) := hz_89.trans (hz_47.symm.trans e_53)
  rw [e_z_88]
  refine lv_iadd hx hb dX9_number_92 ?_
  refine tp_i (y := nI ((10 * v_27) + (48 + d_51))) (nI_add (10 * v_27) (48 + d_51)) ?_
  refine lv_bipush (v := 48) hx hb dX9_number_93 (by decide) ?_
  refine lv_isub hx hb dX9_number_95 ?_
  refine tp_i (y := nI (((10 * v_27) + (48 + d_51)) - 48)) (pk_sub (a := (10 * v_27) + (48 + d_51)) (b := 48) (by omega)) ?_
  refine lv_istore_n (lv' := [(3, .int (nI (((10 * v_27) + (48 + d_51)) - 48))), (4, .int (nI n_28)), (2, .int (nI k25_3)), (1, .int (nI mo)), (0, .ref h0)]) hx hb dX9_number_96 rfl hl (by decide) rfl (fun ls hl => ?_)
  refine lv_aload_n hx hb dX9_number_97 rfl (lv_at hl 4 rfl) ?_
  refine lv_dup hx hb dX9_number_98 rfl ?_
  refine va_get (D := D) (ci := 9) (v := .int (nI a_24)) (C := RX9) (T := TX9) (N := 44) hx hb hts hin9 hown hK hP 0 rfl rfl 25 (by decide) (hts (.fieldLink RX9 87 "HoneyHouseModel" "at" "I") (List.mem_of_getElem? (i := 1) rfl)) (fun _ h9 => h9) rfl dX9_number_99 ?_
  refine lv_iconst (v := 1) hx hb dX9_number_102 (by decide) ?_
  refine lv_iadd hx hb dX9_number_103 ?_
  refine tp_i (y := nI (a_24 + 1)) (nI_add a_24 1) ?_
  refine va_put (D := D) (ci := 9) (v := .int (nI (a_24 + 1))) (ty := .int) (C := RX9) (T := TX9) (N := 44) hx hb hts hin9 tyX9 tyX9_ok nmX9 hown hK hP hD hS 0 rfl rfl 25 (by decide) (hts (.fieldLink RX9 87 "HoneyHouseModel" "at" "I") (List.mem_of_getElem? (i := 1) rfl)) (fun _ h9 => h9) rfl (tyX9_ok 25 (by decide)) rfl rfl (Nat.le_of_ble_eq_true rfl) dX9_number_104 (fun H locs hP hD hS => ?_)
  have hP : va_P D vwCl (mw h0 ad cs (upd (upd (upd iv 21 (nI k21_84)) 22 p22_85) 25 (nI (a_24 + 1))) fv gv) H := hP
  have hD : va_D A (mw h0 ad cs (upd (upd (upd iv 21 (nI k21_84)) 22 p22_85) 25 (nI (a_24 + 1))) fv gv) := hD
  refine lv_iinc (v := nI (n_28 + 1)) (lv' := [(4, .int (nI (n_28 + 1))), (3, .int (nI (((10 * v_27) + (48 + d_51)) - 48))), (2, .int (nI k25_3)), (1, .int (nI mo)), (0, .ref h0)]) hx hb dX9_number_107 hl (k := 1) rfl (nI_add n_28 1) (by decide) rfl (fun ls hl => ?_)
  refine lv_goto (tgt := 31) hx hb dX9_number_110 (by decide) ?_
  exact ih_23 (a_24 + 1, k21_84, p22_85, ((10 * v_27) + (48 + d_51)) - 48, n_28 + 1) (mw h0 ad cs (upd (upd (upd iv 21 (nI k21_84)) 22 p22_85) 25 (nI (a_24 + 1))) fv gv) _ _ ls (by show n26 - (a_24 + 1) < n26 - a_24; omega) ⟨rfl, (show (a_24 + 1) = k25_3 + (n_28 + 1) from by omega), (show (a_24 + 1) ≤ n26 from by omega), (show k21_84 ≤ 3 from by omega), (show (n_28 + 1) ≤ 5 ∨ 1 ≤ k21_84 from by omega), (show ((n_28 + 1) = 0 ∧ (((10 * v_27) + (48 + d_51)) - 48) = 0) ∨ ((n_28 + 1) = 1 ∧ (((10 * v_27) + (48 + d_51)) - 48) ≤ 9) ∨ ((n_28 + 1) = 2 ∧ (((10 * v_27) + (48 + d_51)) - 48) ≤ 99) ∨ ((n_28 + 1) = 3 ∧ (((10 * v_27) + (48 + d_51)) - 48) ≤ 999) ∨ ((n_28 + 1) = 4 ∧ (((10 * v_27) + (48 + d_51)) - 48) ≤ 9999) ∨ ((n_28 + 1) = 5 ∧ (((10 * v_27) + (48 + d_51)) - 48) ≤ 99999) ∨ ((n_28 + 1) = 6 ∧ (((10 * v_27) + (48 + d_51)) - 48) ≤ 999999) from by omega)⟩ hP hD hS (lv_sub hl [0, 1, 2, 3, 4] rfl)
set_option maxHeartbeats 4000000 in
set_option maxRecDepth 100000 in
theorem m_name (l : Launch) (D : va_G) (h0 : Nat) (ad : Nat → Nat) (cs : Nat → ClassId) (iv : Nat → Int32) (fv : Nat → Nat → Int32) (gv : Nat → Int64) (n14 n21 n25 n26 : Nat)  (sz : Nat) (h14 : iv 14 = nI n14) (h21 : iv 21 = nI n21) (h25 : iv 25 = nI n25) (h26 : iv 26 = nI n26) (b15 : n14 ≤ 15) (z21 : n21 = 0) (b25 : n25 ≤ n26) (b26 : n26 ≤ 400) : Met l yX9_name wsX9_name ({ frames := 2, cells := 0, slots := 0, locals := 47 }) (va_Pc [.ref h0] (fun U => U.heap.size = sz ∧ va_P D vwCl (mw h0 ad cs iv fv gv) U.heap ∧ va_K D vwCl (mT cs) U ∧ va_D (fun _ => True) (mw h0 ad cs iv fv gv))) (va_Qv (fun _ : Unit => True) (fun (_ : Unit) (t : State) => ∃ (k21 : Nat) (p22 : Int32) (k25 : Nat) (f15 : Nat → Int32) (f16 : Nat → Int32), (n25 ≤ k25) ∧ (k25 ≤ n26) ∧ (k21 ≤ 3) ∧ (∀ i : Nat, ¬ i = n14 → f16 i = fv 16 i) ∧ (1 ≤ k21 ∨ ∃ k : Nat, k ≤ 12 ∧ f16 n14 = nI k) ∧ va_P D vwCl (mw h0 ad cs (upd (upd (upd iv 21 (nI k21)) 22 p22) 25 (nI k25)) (uF (uF fv 15 f15) 16 f16) gv) t.heap ∧ va_K D vwCl (mT cs) t ∧ va_D (va_A (mw h0 ad cs iv fv gv) sz) (mw h0 ad cs (upd (upd (upd iv 21 (nI k21)) 22 p22) 25 (nI k25)) (uF (uF fv 15 f15) 16 f16) gv)) (va_A (mw h0 ad cs iv fv gv) sz)) 0 0 (va_A (mw h0 ad cs iv fv gv) sz) := by
  refine Met.ofW (cc := cX9_name) (maxL := 3) (ret := none) (by decide) rfl ?_
  intro p e s m args below meth c s₁ B hml hv
  obtain ⟨rfl, hsz, hP, hK, hD0⟩ := hv
  have hx := B.exec
  have hb := B.bytes
  have hr := B.returns
  have hts := atoms_spec (ws := wsX9_name) B.pre
  have hown : s.vm.findClass RX9 = some m.cls := findClass_of_methodNamed B.named
  have hlocks := B.notSynchronized
  subst hsz
  have hD := hD0.self (sz := s.heap.size)
  generalize hAe : va_A (mw h0 ad cs iv fv gv) s.heap.size = A at hD ⊢
  have hA : ∀ q : Nat, s.heap.size ≤ q → A q := fun q h => by rw [← hAe]; exact Or.inr h
  have hS : va_S A s.heap s.heap [] := va_S.rf
  have hin9 : ∀ w ∈ u_ws RX9 TX9 44, w ∈ wsX9_name := (fun _ h9 => List.mem_cons_of_mem _ ((List.mem_append_right _ h9)))
  have hl := lv_entry ([.ref h0]) (n := 3) (Nat.le_of_ble_eq_true rfl)
  rw [lg_entry_eq]
  generalize (lg_sl ([.ref h0]) ++ List.replicate (3 - (lg_sl ([.ref h0])).length) Slot.unset).toArray = ls at hl ⊢
  have hl : lv_has ls 3 [(0, .ref h0)] := hl
  refine lv_aload_n hx hb dX9_name_0 rfl (lv_at hl 0 rfl) ?_
  have hFc := free_all hD hS hA
  refine va_calli (va_runV (As := []) (rest := []) ⟨hx, hb, hml, hown, hts⟩ (m_here l D h0 ad cs iv fv gv n25 n26  s.heap.size h25 h26 (by omega) (by omega)) (cwV 0 hts gX9_name_X9_here rfl rfl rfl (by decide +kernel) ⟨Nat.le_of_ble_eq_true rfl, Nat.le_of_ble_eq_true rfl⟩) ⟨fun a U g mk q => by obtain ⟨q0, q1, qP, qK, qD⟩ := q; exact ⟨q0, q1, qP, va_K.moved (u := U) (U := U.calling g mk a) (Vm.Alike.refl U.vm) qK, qD⟩, va_recv hK hP (ci := 9) (q0 := 0) rfl rfl, fun U hU hW => ⟨rfl, by rw [hU], by rw [hU]; exact hP, va_K.moved hW.alike hK, hD.weaken (fun _ _ _ _ => trivial)⟩⟩ rfl rfl hl.1 rfl (lv_room (Nat.le_of_ble_eq_true rfl)) dX9_name_1 ⟨Nat.le_of_ble_eq_true rfl, Nat.le_of_ble_eq_true rfl⟩) hS (fun q _ h => hFc q h) hFc (fun r_1 u t H1 locs ht hvm w_2 hB hz1 hk1 hS => ?_)
  subst w_2
  obtain ⟨k25_3, q_4, q_5, q_6, q_7, q_8, hP1, hK1, hD1⟩ := hB
  rw [ht] at hP1
  have hK := va_K.moved hvm.symm hK1
  generalize H1 = H at hP1 hS ⊢
  have hP : va_P D vwCl (mw h0 ad cs (upd iv 25 (nI k25_3)) fv gv) H := hP1
  have hD : va_D A (mw h0 ad cs (upd iv 25 (nI k25_3)) fv gv) := hD1.weaken (fun _ _ _ h => hFc _ h)
  refine vp_callSi (W.runS (As := [.int r_1]) (rest := []) ⟨hx, hb, hml, hown, hts⟩ (s_X9_isLetter l r_1) (va_cwS 1 hts gX9_name_X9_isLetter rfl rfl rfl (by decide +kernel) ⟨Nat.le_of_ble_eq_true rfl, Nat.le_of_ble_eq_true rfl⟩) ⟨fun a U g mk q => q, fun U hU hW => ⟨rfl, trivial⟩⟩ rfl rfl hl.1 rfl (lv_room (Nat.le_of_ble_eq_true rfl)) dX9_name_4 ⟨Nat.le_of_ble_eq_true rfl, Nat.le_of_ble_eq_true rfl⟩) (fun r_9 k_10 => ?_)
  rcases k_10 with ⟨rfl, lt_11⟩ | ⟨rfl, lt_11⟩
  · refine lv_if_ne (tgt := 20) hx hb dX9_name_7 (by decide) (fun c_12 => absurd (by decide) c_12) (fun c_12 => ?_)
    refine lv_aload_n hx hb dX9_name_10 rfl (lv_at hl 0 rfl) ?_
    refine lv_iconst (v := 1) hx hb dX9_name_11 (by decide) ?_
    refine lv_aload_n hx hb dX9_name_12 rfl (lv_at hl 0 rfl) ?_
    refine va_get (D := D) (ci := 9) (v := .int (nI k25_3)) (C := RX9) (T := TX9) (N := 44) hx hb hts hin9 hown hK hP 0 rfl rfl 25 (by decide) (hts (.fieldLink RX9 87 "HoneyHouseModel" "at" "I") (List.mem_of_getElem? (i := 1) rfl)) (fun _ h9 => h9) rfl dX9_name_13 ?_
    have hFc := free_all hD hS hA
    refine va_callv (va_runV (As := [.int 1, .int (nI k25_3)]) (rest := []) ⟨hx, hb, hml, hown, hts⟩ (m_blame l D h0 ad cs (upd iv 25 (nI k25_3)) fv gv n21 1 (nI k25_3) H.size h21 (by omega) (by omega)) (cwV 2 hts gX9_name_X9_blame rfl rfl rfl (by decide +kernel) ⟨Nat.le_of_ble_eq_true rfl, Nat.le_of_ble_eq_true rfl⟩) ⟨fun a U g mk q => by obtain ⟨q0, q1, qP, qK, qD⟩ := q; exact ⟨q0, q1, qP, va_K.moved (u := U) (U := U.calling g mk a) (Vm.Alike.refl U.vm) qK, qD⟩, va_recv hK hP (ci := 9) (q0 := 0) rfl rfl, fun U hU hW => ⟨rfl, by rw [hU], by rw [hU]; exact hP, va_K.moved hW.alike hK, hD.weaken (fun _ _ _ _ => trivial)⟩⟩ rfl rfl hl.1 rfl (lv_room (Nat.le_of_ble_eq_true rfl)) dX9_name_16 ⟨Nat.le_of_ble_eq_true rfl, Nat.le_of_ble_eq_true rfl⟩) hS (fun q _ h => hFc q h) hFc (fun u t H1 locs ht hvm w_14 hB hz1 hk1 hS => ?_)
    obtain ⟨k21_15, p22_16, q_17, q_18, hP1, hK1, hD1⟩ := hB
    rw [ht] at hP1
    have hK := va_K.moved hvm.symm hK1
    generalize H1 = H at hP1 hS ⊢
    have hP : va_P D vwCl (mw h0 ad cs (upd (upd (upd iv 21 (nI k21_15)) 22 p22_16) 25 (nI k25_3)) fv gv) H := hP1
    have hD : va_D A (mw h0 ad cs (upd (upd (upd iv 21 (nI k21_15)) 22 p22_16) 25 (nI k25_3)) fv gv) := hD1.weaken (fun _ _ _ h => hFc _ h)
    have hP : va_P D vwCl (mw h0 ad cs (upd (upd (upd iv 21 (nI k21_15)) 22 p22_16) 25 (nI k25_3)) (uF (uF fv 15 (fv 15)) 16 (fv 16)) gv) H := hP
    have hD : va_D A (mw h0 ad cs (upd (upd (upd iv 21 (nI k21_15)) 22 p22_16) 25 (nI k25_3)) (uF (uF fv 15 (fv 15)) 16 (fv 16)) gv) := hD
    exact W.vret hx hb hr (fun t ht hW => ⟨⟨(), rfl, trivial, k21_15, p22_16, k25_3, fv 15, fv 16, by omega, by omega, by omega, fun i h9 => rfl, Or.inl (by omega), by rw [ht]; exact hP, va_K.moved hW.alike hK, hD⟩, hS.F ht⟩) hS.2.2 dX9_name_19
  refine lv_if_ne (tgt := 20) hx hb dX9_name_7 (by decide) (fun c_19 => ?_) (fun c_19 => absurd c_19 (by decide))
  refine lv_aload_n hx hb dX9_name_20 rfl (lv_at hl 0 rfl) ?_
  refine vp_callSi (W.runV (As := []) (rest := []) ⟨hx, hb, hml, hown, hts⟩ (m_wordEnd l D h0 ad cs (upd iv 25 (nI k25_3)) fv gv k25_3 n26  rfl h26 (by omega) (by omega)) (cwV 0 hts gX9_name_X9_wordEnd rfl rfl rfl (by decide +kernel) ⟨Nat.le_of_ble_eq_true rfl, Nat.le_of_ble_eq_true rfl⟩) ⟨fun a U g mk q => ⟨q.1, q.2.1, va_K.moved (u := U) (U := U.calling g mk a) (Vm.Alike.refl U.vm) q.2.2⟩, va_recv hK hP (ci := 9) (q0 := 0) rfl rfl, fun U hU hW => ⟨rfl, by rw [hU]; exact hP, va_K.moved hW.alike hK⟩⟩ rfl rfl hl.1 rfl (lv_room (Nat.le_of_ble_eq_true rfl)) dX9_name_21 ⟨Nat.le_of_ble_eq_true rfl, Nat.le_of_ble_eq_true rfl⟩) (fun r_20 k_21 => ?_)
  obtain ⟨e_22, rfl, he_23⟩ := k_21
  have he_23b : k25_3 ≤ e_22 ∧ e_22 ≤ n26 := ⟨he_23.1, he_23.2.1⟩
  refine lv_istore_n (lv' := [(1, .int (nI e_22)), (0, .ref h0)]) hx hb dX9_name_24 rfl hl (by decide) rfl (fun ls hl => ?_)
  refine lv_aload_n hx hb dX9_name_25 rfl (lv_at hl 1 rfl) ?_
  refine lv_iload_n hx hb dX9_name_26 rfl (lv_at hl 0 rfl) ?_
  refine vp_callSi (W.runV (As := [.int (nI e_22)]) (rest := []) ⟨hx, hb, hml, hown, hts⟩ (m_word l D h0 ad cs (upd iv 25 (nI k25_3)) fv gv k25_3 e_22 rfl (by omega)) (cwV 1 hts gX9_name_X9_word rfl rfl rfl (by decide +kernel) ⟨Nat.le_of_ble_eq_true rfl, Nat.le_of_ble_eq_true rfl⟩) ⟨fun a U g mk q => ⟨q.1, q.2.1, va_K.moved (u := U) (U := U.calling g mk a) (Vm.Alike.refl U.vm) q.2.2⟩, va_recv hK hP (ci := 9) (q0 := 0) rfl rfl, fun U hU hW => ⟨rfl, by rw [hU]; exact hP, va_K.moved hW.alike hK⟩⟩ rfl rfl hl.1 rfl (lv_room (Nat.le_of_ble_eq_true rfl)) dX9_name_27 ⟨Nat.le_of_ble_eq_true rfl, Nat.le_of_ble_eq_true rfl⟩) (fun r_24 k_25 => ?_)
  obtain ⟨c_26, rfl, hc_27⟩ := k_25
  refine lv_bipush (v := 11) hx hb dX9_name_30 (by decide) ?_
  refine lv_icmp_eq (tgt := 44) hx hb dX9_name_32 (by decide) (fun c_28 => ?_) (fun c_28 => ?_)
  · have d_29 := n_eq (a := c_26) (b := 11) (by omega) (by omega) c_28
    refine lv_iload_n hx hb dX9_name_44 rfl (lv_at hl 0 rfl) ?_
    refine lv_aload_n hx hb dX9_name_45 rfl (lv_at hl 1 rfl) ?_
    refine va_get (D := D) (ci := 9) (v := .int (nI k25_3)) (C := RX9) (T := TX9) (N := 44) hx hb hts hin9 hown hK hP 0 rfl rfl 25 (by decide) (hts (.fieldLink RX9 87 "HoneyHouseModel" "at" "I") (List.mem_of_getElem? (i := 1) rfl)) (fun _ h9 => h9) rfl dX9_name_46 ?_
    refine lv_isub hx hb dX9_name_49 ?_
    refine tp_i (y := nI (e_22 - k25_3)) (pk_sub (a := e_22) (b := k25_3) (by omega)) ?_
    refine lv_bipush (v := 12) hx hb dX9_name_50 (by decide) ?_
    refine lv_icmp_le (tgt := 67) hx hb dX9_name_52 (by decide) (fun c_30 => ?_) (fun c_30 => ?_)
    · have d_31 := n_le (a := e_22 - k25_3) (b := 12) (by omega) (by omega) c_30
      refine lv_aload_n hx hb dX9_name_67 rfl (lv_at hl 1 rfl) ?_
      refine va_get (D := D) (ci := 9) (v := .int (iv 21)) (C := RX9) (T := TX9) (N := 44) hx hb hts hin9 hown hK hP 0 rfl rfl 21 (by decide) (hts (.fieldLink RX9 74 "HoneyHouseModel" "faultKind" "I") (List.mem_of_getElem? (i := 2) rfl)) (fun _ h9 => h9) rfl dX9_name_68 ?_
      refine tp_i (y := nI n21) (h21) ?_
      refine lv_if_le (tgt := 75) hx hb dX9_name_71 (by decide) (fun c_32 => ?_) (fun c_32 => ?_)
      · have d_33 := n_le (a := n21) (b := 0) (by omega) (by omega) c_32
        refine lv_aload_n hx hb dX9_name_75 rfl (lv_at hl 1 rfl) ?_
        refine va_get (D := D) (ci := 9) (v := .ref (ad 16)) (C := RX9) (T := TX9) (N := 44) hx hb hts hin9 hown hK hP 0 rfl rfl 16 (by decide) (hts (.fieldLink RX9 59 "HoneyHouseModel" "nameSize" "[I") (List.mem_of_getElem? (i := 3) rfl)) (fun _ h9 => h9) rfl dX9_name_76 ?_
        refine lv_aload_n hx hb dX9_name_79 rfl (lv_at hl 1 rfl) ?_
        refine va_get (D := D) (ci := 9) (v := .int (iv 14)) (C := RX9) (T := TX9) (N := 44) hx hb hts hin9 hown hK hP 0 rfl rfl 14 (by decide) (hts (.fieldLink RX9 53 "HoneyHouseModel" "rules" "I") (List.mem_of_getElem? (i := 4) rfl)) (fun _ h9 => h9) rfl dX9_name_80 ?_
        refine tp_i (y := nI n14) (h14) ?_
        refine lv_iload_n hx hb dX9_name_83 rfl (lv_at hl 0 rfl) ?_
        refine lv_aload_n hx hb dX9_name_84 rfl (lv_at hl 1 rfl) ?_
        refine va_get (D := D) (ci := 9) (v := .int (nI k25_3)) (C := RX9) (T := TX9) (N := 44) hx hb hts hin9 hown hK hP 0 rfl rfl 25 (by decide) (hts (.fieldLink RX9 87 "HoneyHouseModel" "at" "I") (List.mem_of_getElem? (i := 1) rfl)) (fun _ h9 => h9) rfl dX9_name_85 ?_
        refine lv_isub hx hb dX9_name_88 ?_
        refine tp_i (y := nI (e_22 - k25_3)) (pk_sub (a := e_22) (b := k25_3) (by omega)) ?_
        refine va_iast (f := fv 16) (n := 16) hx hb hK hP hD hS 12 11 rfl rfl (vp_in_nI (n := n14) (by omega) (by omega)) dX9_name_89 (fun H locs hP hD hS => ?_)
        have hP : va_P D vwCl (mw h0 ad cs (upd iv 25 (nI k25_3)) (uF fv 16 (upd (fv 16) (nI n14).toNatClampNeg (nI (e_22 - k25_3)))) gv) H := hP
        have hD : va_D A (mw h0 ad cs (upd iv 25 (nI k25_3)) (uF fv 16 (upd (fv 16) (nI n14).toNatClampNeg (nI (e_22 - k25_3)))) gv) := hD
        obtain ⟨f_34, hf_35⟩ : ∃ g9, g9 = upd (fv 16) (nI n14).toNatClampNeg (nI (e_22 - k25_3)) := ⟨_, rfl⟩
        rw [← hf_35] at hP hD
        rw [nI_clamp (n := n14) (by omega)] at hf_35
        refine lv_iconst (v := 0) hx hb dX9_name_90 (by decide) ?_
        refine lv_istore_n (lv' := [(2, .int 0), (1, .int (nI e_22)), (0, .ref h0)]) hx hb dX9_name_91 rfl hl (by decide) rfl (fun ls hl => ?_)
        have hlen : e_22 ≤ k25_3 + 12 := by omega
        refine lp_V (nL := 3) (σ := Nat × Nat × (Nat → Int32)) (lv := fun x9 => [(2, .int (nI x9.2.1)), (1, .int (nI e_22)), (0, .ref h0)]) (μ := fun x9 => e_22 - x9.1) (J := fun x9 ws9 => ws9 = (mw h0 ad cs (upd iv 25 (nI x9.1)) (uF (uF fv 15 x9.2.2) 16 f_34) gv) ∧ (x9.1 = k25_3 + x9.2.1) ∧ (x9.1 ≤ e_22)) (fun x9 ws9 H locs ls hj hP hD hS hl ih_36 => ?_) (k25_3, 0, fv 15) (mw h0 ad cs (upd iv 25 (nI k25_3)) (uF fv 16 f_34) gv) _ _ ls ⟨rfl, (show k25_3 = k25_3 + 0 from by omega), (show k25_3 ≤ e_22 from by omega)⟩ hP hD hS (lv_sub hl [0, 1, 2] rfl)
        obtain ⟨a_37, k_38, f15_39⟩ := x9
        replace hj : ws9 = (mw h0 ad cs (upd iv 25 (nI a_37)) (uF (uF fv 15 f15_39) 16 f_34) gv) ∧ (a_37 = k25_3 + k_38) ∧ (a_37 ≤ e_22) := hj
        obtain ⟨rfl, ha_40, hb_41⟩ := hj
        have hl : lv_has ls 3 [(2, .int (nI k_38)), (1, .int (nI e_22)), (0, .ref h0)] := hl
        refine lv_aload_n hx hb dX9_name_92 rfl (lv_at hl 2 rfl) ?_
        refine va_get (D := D) (ci := 9) (v := .int (nI a_37)) (C := RX9) (T := TX9) (N := 44) hx hb hts hin9 hown hK hP 0 rfl rfl 25 (by decide) (hts (.fieldLink RX9 87 "HoneyHouseModel" "at" "I") (List.mem_of_getElem? (i := 1) rfl)) (fun _ h9 => h9) rfl dX9_name_93 ?_
        refine lv_iload_n hx hb dX9_name_96 rfl (lv_at hl 1 rfl) ?_
        refine lv_icmp_ge (tgt := 139) hx hb dX9_name_97 (by decide) (fun c_42 => ?_) (fun c_42 => ?_)
        · have d_43 := n_le (a := e_22) (b := a_37) (by omega) (by omega) c_42
          have hP : va_P D vwCl (mw h0 ad cs (upd (upd (upd iv 21 (iv 21)) 22 (iv 22)) 25 (nI a_37)) (uF (uF fv 15 f15_39) 16 f_34) gv) H := hP
          have hD : va_D A (mw h0 ad cs (upd (upd (upd iv 21 (iv 21)) 22 (iv 22)) 25 (nI a_37)) (uF (uF fv 15 f15_39) 16 f_34) gv) := hD
          have hP := hP
          rw [h21] at hP hD
          exact W.vret hx hb hr (fun t ht hW => ⟨⟨(), rfl, trivial, n21, iv 22, a_37, f15_39, f_34, by omega, by omega, by omega, fun i h9 => by rw [hf_35]; exact up_ne h9, Or.inr ⟨e_22 - k25_3, by omega, by rw [hf_35]; exact up_eq⟩, by rw [ht]; exact hP, va_K.moved hW.alike hK, hD⟩, hS.F ht⟩) hS.2.2 dX9_name_139
        have d_44 := n_nle (a := e_22) (b := a_37) (by omega) (by omega) c_42
        refine lv_aload_n hx hb dX9_name_100 rfl (lv_at hl 2 rfl) ?_
        refine va_get (D := D) (ci := 9) (v := .ref (ad 15)) (C := RX9) (T := TX9) (N := 44) hx hb hts hin9 hown hK hP 0 rfl rfl 15 (by decide) (hts (.fieldLink RX9 56 "HoneyHouseModel" "names" "[I") (List.mem_of_getElem? (i := 5) rfl)) (fun _ h9 => h9) rfl dX9_name_101 ?_
        refine lv_bipush (v := 12) hx hb dX9_name_104 (by decide) ?_
        refine lv_aload_n hx hb dX9_name_106 rfl (lv_at hl 2 rfl) ?_
        refine va_get (D := D) (ci := 9) (v := .int (iv 14)) (C := RX9) (T := TX9) (N := 44) hx hb hts hin9 hown hK hP 0 rfl rfl 14 (by decide) (hts (.fieldLink RX9 53 "HoneyHouseModel" "rules" "I") (List.mem_of_getElem? (i := 4) rfl)) (fun _ h9 => h9) rfl dX9_name_107 ?_
        refine tp_i (y := nI n14) (h14) ?_
        refine lv_imul hx hb dX9_name_110 ?_
        refine tp_i (y := nI (12 * n14)) (pk_mul 12 n14) ?_
        refine lv_iload_n hx hb dX9_name_111 rfl (lv_at hl 0 rfl) ?_
        refine lv_iadd hx hb dX9_name_112 ?_
        refine tp_i (y := nI ((12 * n14) + k_38)) (nI_add (12 * n14) k_38) ?_
        refine lv_aload_n hx hb dX9_name_113 rfl (lv_at hl 2 rfl) ?_
        refine va_get (D := D) (ci := 9) (v := .ref (ad 0)) (C := RX9) (T := TX9) (N := 44) hx hb hts hin9 hown hK hP 0 rfl rfl 0 (by decide) (hts (.fieldLink RX9 7 "HoneyHouseModel" "tape" "[I") (List.mem_of_getElem? (i := 6) rfl)) (fun _ h9 => h9) rfl dX9_name_114 ?_
        refine lv_aload_n hx hb dX9_name_117 rfl (lv_at hl 2 rfl) ?_
        refine va_get (D := D) (ci := 9) (v := .int (nI a_37)) (C := RX9) (T := TX9) (N := 44) hx hb hts hin9 hown hK hP 0 rfl rfl 25 (by decide) (hts (.fieldLink RX9 87 "HoneyHouseModel" "at" "I") (List.mem_of_getElem? (i := 1) rfl)) (fun _ h9 => h9) rfl dX9_name_118 ?_
        refine va_iald (f := fv 0) (n := 400) hx hb hK hP 1 0 rfl rfl (vp_in_nI (n := a_37) (by omega) (by omega)) dX9_name_121 ?_
        refine lv_topi (fun z_45 hz_46 => ?_)
        refine va_iast (f := f15_39) (n := 192) hx hb hK hP hD hS 11 10 rfl rfl (vp_in_nI (n := (12 * n14) + k_38) (by omega) (by omega)) dX9_name_122 (fun H locs hP hD hS => ?_)
        have hP : va_P D vwCl (mw h0 ad cs (upd iv 25 (nI a_37)) (uF (uF fv 15 (upd f15_39 (nI ((12 * n14) + k_38)).toNatClampNeg z_45)) 16 f_34) gv) H := hP
        have hD : va_D A (mw h0 ad cs (upd iv 25 (nI a_37)) (uF (uF fv 15 (upd f15_39 (nI ((12 * n14) + k_38)).toNatClampNeg z_45)) 16 f_34) gv) := hD
        obtain ⟨f_47, hf_48⟩ : ∃ g9, g9 = upd f15_39 (nI ((12 * n14) + k_38)).toNatClampNeg z_45 := ⟨_, rfl⟩
        rw [← hf_48] at hP hD
        rw [nI_clamp (n := (12 * n14) + k_38) (by omega)] at hf_48
        refine lv_aload_n hx hb dX9_name_123 rfl (lv_at hl 2 rfl) ?_
        refine lv_dup hx hb dX9_name_124 rfl ?_
        refine va_get (D := D) (ci := 9) (v := .int (nI a_37)) (C := RX9) (T := TX9) (N := 44) hx hb hts hin9 hown hK hP 0 rfl rfl 25 (by decide) (hts (.fieldLink RX9 87 "HoneyHouseModel" "at" "I") (List.mem_of_getElem? (i := 1) rfl)) (fun _ h9 => h9) rfl dX9_name_125 ?_
        refine lv_iconst (v := 1) hx hb dX9_name_128 (by decide) ?_
        refine lv_iadd hx hb dX9_name_129 ?_
        refine tp_i (y := nI (a_37 + 1)) (nI_add a_37 1) ?_
        refine va_put (D := D) (ci := 9) (v := .int (nI (a_37 + 1))) (ty := .int) (C := RX9) (T := TX9) (N := 44) hx hb hts hin9 tyX9 tyX9_ok nmX9 hown hK hP hD hS 0 rfl rfl 25 (by decide) (hts (.fieldLink RX9 87 "HoneyHouseModel" "at" "I") (List.mem_of_getElem? (i := 1) rfl)) (fun _ h9 => h9) rfl (tyX9_ok 25 (by decide)) rfl rfl (Nat.le_of_ble_eq_true rfl) dX9_name_130 (fun H locs hP hD hS => ?_)
        have hP : va_P D vwCl (mw h0 ad cs (upd iv 25 (nI (a_37 + 1))) (uF (uF fv 15 f_47) 16 f_34) gv) H := hP
        have hD : va_D A (mw h0 ad cs (upd iv 25 (nI (a_37 + 1))) (uF (uF fv 15 f_47) 16 f_34) gv) := hD
        refine lv_iinc (v := nI (k_38 + 1)) (lv' := [(2, .int (nI (k_38 + 1))), (1, .int (nI e_22)), (0, .ref h0)]) hx hb dX9_name_133 hl (k := 0) rfl (nI_add k_38 1) (by decide) rfl (fun ls hl => ?_)
        refine lv_goto (tgt := 92) hx hb dX9_name_136 (by decide) ?_
        exact ih_36 (a_37 + 1, k_38 + 1, f_47) (mw h0 ad cs (upd iv 25 (nI (a_37 + 1))) (uF (uF fv 15 f_47) 16 f_34) gv) _ _ ls (by show e_22 - (a_37 + 1) < e_22 - a_37; omega) ⟨rfl, (show (a_37 + 1) = k25_3 + (k_38 + 1) from by omega), (show (a_37 + 1) ≤ e_22 from by omega)⟩ hP hD hS (lv_sub hl [0, 1, 2] rfl)
      have d_49 := n_nle (a := n21) (b := 0) (by omega) (by omega) c_32
      have hP : va_P D vwCl (mw h0 ad cs (upd (upd (upd iv 21 (iv 21)) 22 (iv 22)) 25 (nI k25_3)) (uF (uF fv 15 (fv 15)) 16 (fv 16)) gv) H := hP
      have hD : va_D A (mw h0 ad cs (upd (upd (upd iv 21 (iv 21)) 22 (iv 22)) 25 (nI k25_3)) (uF (uF fv 15 (fv 15)) 16 (fv 16)) gv) := hD
      have hP := hP
      rw [h21] at hP hD
      exact W.vret hx hb hr (fun t ht hW => ⟨⟨(), rfl, trivial, n21, iv 22, k25_3, fv 15, fv 16, by omega, by omega, by omega, fun i h9 => rfl, Or.inl (by omega), by rw [ht]; exact hP, va_K.moved hW.alike hK, hD⟩, hS.F ht⟩) hS.2.2 dX9_name_74
    have d_50 := n_nle (a := e_22 - k25_3) (b := 12) (by omega) (by omega) c_30
    refine lv_aload_n hx hb dX9_name_55 rfl (lv_at hl 1 rfl) ?_
    refine lv_iconst (v := 1) hx hb dX9_name_56 (by decide) ?_
    refine lv_aload_n hx hb dX9_name_57 rfl (lv_at hl 1 rfl) ?_
    refine va_get (D := D) (ci := 9) (v := .int (nI k25_3)) (C := RX9) (T := TX9) (N := 44) hx hb hts hin9 hown hK hP 0 rfl rfl 25 (by decide) (hts (.fieldLink RX9 87 "HoneyHouseModel" "at" "I") (List.mem_of_getElem? (i := 1) rfl)) (fun _ h9 => h9) rfl dX9_name_58 ?_
    refine lv_bipush (v := 12) hx hb dX9_name_61 (by decide) ?_
    refine lv_iadd hx hb dX9_name_63 ?_
    refine tp_i (y := nI (k25_3 + 12)) (nI_add k25_3 12) ?_
    have hFc := free_all hD hS hA
    refine va_callv (va_runV (As := [.int 1, .int (nI (k25_3 + 12))]) (rest := []) ⟨hx, hb, hml, hown, hts⟩ (m_blame l D h0 ad cs (upd iv 25 (nI k25_3)) fv gv n21 1 (nI (k25_3 + 12)) H.size h21 (by omega) (by omega)) (cwV 2 hts gX9_name_X9_blame rfl rfl rfl (by decide +kernel) ⟨Nat.le_of_ble_eq_true rfl, Nat.le_of_ble_eq_true rfl⟩) ⟨fun a U g mk q => by obtain ⟨q0, q1, qP, qK, qD⟩ := q; exact ⟨q0, q1, qP, va_K.moved (u := U) (U := U.calling g mk a) (Vm.Alike.refl U.vm) qK, qD⟩, va_recv hK hP (ci := 9) (q0 := 0) rfl rfl, fun U hU hW => ⟨rfl, by rw [hU], by rw [hU]; exact hP, va_K.moved hW.alike hK, hD.weaken (fun _ _ _ _ => trivial)⟩⟩ rfl rfl hl.1 rfl (lv_room (Nat.le_of_ble_eq_true rfl)) dX9_name_64 ⟨Nat.le_of_ble_eq_true rfl, Nat.le_of_ble_eq_true rfl⟩) hS (fun q _ h => hFc q h) hFc (fun u t H1 locs ht hvm w_52 hB hz1 hk1 hS => ?_)
    obtain ⟨k21_53, p22_54, q_55, q_56, hP1, hK1, hD1⟩ := hB
    rw [ht] at hP1
    have hK := va_K.moved hvm.symm hK1
    generalize H1 = H at hP1 hS ⊢
    have hP : va_P D vwCl (mw h0 ad cs (upd (upd (upd iv 21 (nI k21_53)) 22 p22_54) 25 (nI k25_3)) fv gv) H := hP1
    have hD : va_D A (mw h0 ad cs (upd (upd (upd iv 21 (nI k21_53)) 22 p22_54) 25 (nI k25_3)) fv gv) := hD1.weaken (fun _ _ _ h => hFc _ h)
    refine lv_aload_n hx hb dX9_name_67 rfl (lv_at hl 1 rfl) ?_
    refine va_get (D := D) (ci := 9) (v := .int (nI k21_53)) (C := RX9) (T := TX9) (N := 44) hx hb hts hin9 hown hK hP 0 rfl rfl 21 (by decide) (hts (.fieldLink RX9 74 "HoneyHouseModel" "faultKind" "I") (List.mem_of_getElem? (i := 2) rfl)) (fun _ h9 => h9) rfl dX9_name_68 ?_
    refine lv_if_le (tgt := 75) hx hb dX9_name_71 (by decide) (fun c_57 => absurd c_57 (nI_nle (n := k21_53) (by omega) (by omega))) (fun c_57 => ?_)
    have hP : va_P D vwCl (mw h0 ad cs (upd (upd (upd iv 21 (nI k21_53)) 22 p22_54) 25 (nI k25_3)) (uF (uF fv 15 (fv 15)) 16 (fv 16)) gv) H := hP
    have hD : va_D A (mw h0 ad cs (upd (upd (upd iv 21 (nI k21_53)) 22 p22_54) 25 (nI k25_3)) (uF (uF fv 15 (fv 15)) 16 (fv 16)) gv) := hD
    exact W.vret hx hb hr (fun t ht hW => ⟨⟨(), rfl, trivial, k21_53, p22_54, k25_3, fv 15, fv 16, by omega, by omega, by omega, fun i h9 => rfl, Or.inl (by omega), by rw [ht]; exact hP, va_K.moved hW.alike hK, hD⟩, hS.F ht⟩) hS.2.2 dX9_name_74
  have d_58 := n_ne (a := c_26) (b := 11) (by omega) (by omega) c_28
  refine lv_aload_n hx hb dX9_name_35 rfl (lv_at hl 1 rfl) ?_
  refine lv_iconst (v := 1) hx hb dX9_name_36 (by decide) ?_
  refine lv_aload_n hx hb dX9_name_37 rfl (lv_at hl 1 rfl) ?_
  refine va_get (D := D) (ci := 9) (v := .int (nI k25_3)) (C := RX9) (T := TX9) (N := 44) hx hb hts hin9 hown hK hP 0 rfl rfl 25 (by decide) (hts (.fieldLink RX9 87 "HoneyHouseModel" "at" "I") (List.mem_of_getElem? (i := 1) rfl)) (fun _ h9 => h9) rfl dX9_name_38 ?_
  have hFc := free_all hD hS hA
  refine va_callv (va_runV (As := [.int 1, .int (nI k25_3)]) (rest := []) ⟨hx, hb, hml, hown, hts⟩ (m_blame l D h0 ad cs (upd iv 25 (nI k25_3)) fv gv n21 1 (nI k25_3) H.size h21 (by omega) (by omega)) (cwV 2 hts gX9_name_X9_blame rfl rfl rfl (by decide +kernel) ⟨Nat.le_of_ble_eq_true rfl, Nat.le_of_ble_eq_true rfl⟩) ⟨fun a U g mk q => by obtain ⟨q0, q1, qP, qK, qD⟩ := q; exact ⟨q0, q1, qP, va_K.moved (u := U) (U := U.calling g mk a) (Vm.Alike.refl U.vm) qK, qD⟩, va_recv hK hP (ci := 9) (q0 := 0) rfl rfl, fun U hU hW => ⟨rfl, by rw [hU], by rw [hU]; exact hP, va_K.moved hW.alike hK, hD.weaken (fun _ _ _ _ => trivial)⟩⟩ rfl rfl hl.1 rfl (lv_room (Nat.le_of_ble_eq_true rfl)) dX9_name_41 ⟨Nat.le_of_ble_eq_true rfl, Nat.le_of_ble_eq_true rfl⟩) hS (fun q _ h => hFc q h) hFc (fun u t H1 locs ht hvm w_60 hB hz1 hk1 hS => ?_)
  obtain ⟨k21_61, p22_62, q_63, q_64, hP1, hK1, hD1⟩ := hB
  rw [ht] at hP1
  have hK := va_K.moved hvm.symm hK1
  generalize H1 = H at hP1 hS ⊢
  have hP : va_P D vwCl (mw h0 ad cs (upd (upd (upd iv 21 (nI k21_61)) 22 p22_62) 25 (nI k25_3)) fv gv) H := hP1
  have hD : va_D A (mw h0 ad cs (upd (upd (upd iv 21 (nI k21_61)) 22 p22_62) 25 (nI k25_3)) fv gv) := hD1.weaken (fun _ _ _ h => hFc _ h)
  refine lv_iload_n hx hb dX9_name_44 rfl (lv_at hl 0 rfl) ?_
  refine lv_aload_n hx hb dX9_name_45 rfl (lv_at hl 1 rfl) ?_
  refine va_get (D := D) (ci := 9) (v := .int (nI k25_3)) (C := RX9) (T := TX9) (N := 44) hx hb hts hin9 hown hK hP 0 rfl rfl 25 (by decide) (hts (.fieldLink RX9 87 "HoneyHouseModel" "at" "I") (List.mem_of_getElem? (i := 1) rfl)) (fun _ h9 => h9) rfl dX9_name_46 ?_
  refine lv_isub hx hb dX9_name_49 ?_
  refine tp_i (y := nI (e_22 - k25_3)) (pk_sub (a := e_22) (b := k25_3) (by omega)) ?_
  refine lv_bipush (v := 12) hx hb dX9_name_50 (by decide) ?_
  refine lv_icmp_le (tgt := 67) hx hb dX9_name_52 (by decide) (fun c_65 => ?_) (fun c_65 => ?_)
  · have d_66 := n_le (a := e_22 - k25_3) (b := 12) (by omega) (by omega) c_65
    refine lv_aload_n hx hb dX9_name_67 rfl (lv_at hl 1 rfl) ?_
    refine va_get (D := D) (ci := 9) (v := .int (nI k21_61)) (C := RX9) (T := TX9) (N := 44) hx hb hts hin9 hown hK hP 0 rfl rfl 21 (by decide) (hts (.fieldLink RX9 74 "HoneyHouseModel" "faultKind" "I") (List.mem_of_getElem? (i := 2) rfl)) (fun _ h9 => h9) rfl dX9_name_68 ?_
    refine lv_if_le (tgt := 75) hx hb dX9_name_71 (by decide) (fun c_67 => absurd c_67 (nI_nle (n := k21_61) (by omega) (by omega))) (fun c_67 => ?_)
    have hP : va_P D vwCl (mw h0 ad cs (upd (upd (upd iv 21 (nI k21_61)) 22 p22_62) 25 (nI k25_3)) (uF (uF fv 15 (fv 15)) 16 (fv 16)) gv) H := hP
    have hD : va_D A (mw h0 ad cs (upd (upd (upd iv 21 (nI k21_61)) 22 p22_62) 25 (nI k25_3)) (uF (uF fv 15 (fv 15)) 16 (fv 16)) gv) := hD
    exact W.vret hx hb hr (fun t ht hW => ⟨⟨(), rfl, trivial, k21_61, p22_62, k25_3, fv 15, fv 16, by omega, by omega, by omega, fun i h9 => rfl, Or.inl (by omega), by rw [ht]; exact hP, va_K.moved hW.alike hK, hD⟩, hS.F ht⟩) hS.2.2 dX9_name_74
  have d_68 := n_nle (a := e_22 - k25_3) (b := 12) (by omega) (by omega) c_65
  refine lv_aload_n hx hb dX9_name_55 rfl (lv_at hl 1 rfl) ?_
  refine lv_iconst (v := 1) hx hb dX9_name_56 (by decide) ?_
  refine lv_aload_n hx hb dX9_name_57 rfl (lv_at hl 1 rfl) ?_
  refine va_get (D := D) (ci := 9) (v := .int (nI k25_3)) (C := RX9) (T := TX9) (N := 44) hx hb hts hin9 hown hK hP 0 rfl rfl 25 (by decide) (hts (.fieldLink RX9 87 "HoneyHouseModel" "at" "I") (List.mem_of_getElem? (i := 1) rfl)) (fun _ h9 => h9) rfl dX9_name_58 ?_
  refine lv_bipush (v := 12) hx hb dX9_name_61 (by decide) ?_
  refine lv_iadd hx hb dX9_name_63 ?_
  refine tp_i (y := nI (k25_3 + 12)) (nI_add k25_3 12) ?_
  have hFc := free_all hD hS hA
  refine va_callv (va_runV (As := [.int 1, .int (nI (k25_3 + 12))]) (rest := []) ⟨hx, hb, hml, hown, hts⟩ (m_blame l D h0 ad cs (upd (upd (upd iv 21 (nI k21_61)) 22 p22_62) 25 (nI k25_3)) fv gv k21_61 1 (nI (k25_3 + 12)) H.size rfl (by omega) (by omega)) (cwV 2 hts gX9_name_X9_blame rfl rfl rfl (by decide +kernel) ⟨Nat.le_of_ble_eq_true rfl, Nat.le_of_ble_eq_true rfl⟩) ⟨fun a U g mk q => by obtain ⟨q0, q1, qP, qK, qD⟩ := q; exact ⟨q0, q1, qP, va_K.moved (u := U) (U := U.calling g mk a) (Vm.Alike.refl U.vm) qK, qD⟩, va_recv hK hP (ci := 9) (q0 := 0) rfl rfl, fun U hU hW => ⟨rfl, by rw [hU], by rw [hU]; exact hP, va_K.moved hW.alike hK, hD.weaken (fun _ _ _ _ => trivial)⟩⟩ rfl rfl hl.1 rfl (lv_room (Nat.le_of_ble_eq_true rfl)) dX9_name_64 ⟨Nat.le_of_ble_eq_true rfl, Nat.le_of_ble_eq_true rfl⟩) hS (fun q _ h => hFc q h) hFc (fun u t H1 locs ht hvm w_70 hB hz1 hk1 hS => ?_)
  obtain ⟨k21_71, p22_72, q_73, q_74, hP1, hK1, hD1⟩ := hB
  rw [ht] at hP1
  have hK := va_K.moved hvm.symm hK1
  generalize H1 = H at hP1 hS ⊢
  have hP : va_P D vwCl (mw h0 ad cs (upd (upd (upd iv 21 (nI k21_71)) 22 p22_72) 25 (nI k25_3)) fv gv) H := hP1
  have hD : va_D A (mw h0 ad cs (upd (upd (upd iv 21 (nI k21_71)) 22 p22_72) 25 (nI k25_3)) fv gv) := hD1.weaken (fun _ _ _ h => hFc _ h)
  refine lv_aload_n hx hb dX9_name_67 rfl (lv_at hl 1 rfl) ?_
  refine va_get (D := D) (ci := 9) (v := .int (nI k21_71)) (C := RX9) (T := TX9) (N := 44) hx hb hts hin9 hown hK hP 0 rfl rfl 21 (by decide) (hts (.fieldLink RX9 74 "HoneyHouseModel" "faultKind" "I") (List.mem_of_getElem? (i := 2) rfl)) (fun _ h9 => h9) rfl dX9_name_68 ?_
  refine lv_if_le (tgt := 75) hx hb dX9_name_71 (by decide) (fun c_75 => absurd c_75 (nI_nle (n := k21_71) (by omega) (by omega))) (fun c_75 => ?_)
  have hP : va_P D vwCl (mw h0 ad cs (upd (upd (upd iv 21 (nI k21_71)) 22 p22_72) 25 (nI k25_3)) (uF (uF fv 15 (fv 15)) 16 (fv 16)) gv) H := hP
  have hD : va_D A (mw h0 ad cs (upd (upd (upd iv 21 (nI k21_71)) 22 p22_72) 25 (nI k25_3)) (uF (uF fv 15 (fv 15)) 16 (fv 16)) gv) := hD
  exact W.vret hx hb hr (fun t ht hW => ⟨⟨(), rfl, trivial, k21_71, p22_72, k25_3, fv 15, fv 16, by omega, by omega, by omega, fun i h9 => rfl, Or.inl (by omega), by rw [ht]; exact hP, va_K.moved hW.alike hK, hD⟩, hS.F ht⟩) hS.2.2 dX9_name_74
set_option maxHeartbeats 4000000 in
set_option maxRecDepth 100000 in
theorem m_add (l : Launch) (D : va_G) (h0 : Nat) (ad : Nat → Nat) (cs : Nat → ClassId) (iv : Nat → Int32) (fv : Nat → Nat → Int32) (gv : Nat → Int64) (n14 n30 : Nat) (a1 : Int32) (sz : Nat) (h14 : iv 14 = nI n14) (h30 : iv 30 = nI n30) (b15 : n14 ≤ 15) (b30 : n30 < 200) : Met l yX9_add wsX9_add ({ frames := 0, cells := 0, slots := 0, locals := 0 }) (va_Pc [.ref h0, .int a1] (fun U => U.heap.size = sz ∧ va_P D vwCl (mw h0 ad cs iv fv gv) U.heap ∧ va_K D vwCl (mT cs) U ∧ va_D (fun _ => True) (mw h0 ad cs iv fv gv))) (va_Qv (fun _ : Unit => True) (fun (_ : Unit) (t : State) => ∃ (f19 : Nat → Int32), (f19 = upd (fv 19) (200 * n14 + n30) a1) ∧ va_P D vwCl (mw h0 ad cs (upd iv 30 (nI (n30 + 1))) (uF fv 19 f19) gv) t.heap ∧ va_K D vwCl (mT cs) t ∧ va_D (va_A (mw h0 ad cs iv fv gv) sz) (mw h0 ad cs (upd iv 30 (nI (n30 + 1))) (uF fv 19 f19) gv)) (va_A (mw h0 ad cs iv fv gv) sz)) 0 0 (va_A (mw h0 ad cs iv fv gv) sz) := by
  refine Met.ofW (cc := cX9_add) (maxL := 2) (ret := none) (by decide) rfl ?_
  intro p e s m args below meth c s₁ B hml hv
  obtain ⟨rfl, hsz, hP, hK, hD0⟩ := hv
  have hx := B.exec
  have hb := B.bytes
  have hr := B.returns
  have hts := atoms_spec (ws := wsX9_add) B.pre
  have hown : s.vm.findClass RX9 = some m.cls := findClass_of_methodNamed B.named
  have hlocks := B.notSynchronized
  subst hsz
  have hD := hD0.self (sz := s.heap.size)
  generalize hAe : va_A (mw h0 ad cs iv fv gv) s.heap.size = A at hD ⊢
  have hA : ∀ q : Nat, s.heap.size ≤ q → A q := fun q h => by rw [← hAe]; exact Or.inr h
  have hS : va_S A s.heap s.heap [] := va_S.rf
  have hin9 : ∀ w ∈ u_ws RX9 TX9 44, w ∈ wsX9_add := (fun _ h9 => List.mem_cons_of_mem _ ((List.mem_append_right _ h9)))
  have hl := lv_entry ([.ref h0, .int a1]) (n := 2) (Nat.le_of_ble_eq_true rfl)
  rw [lg_entry_eq]
  generalize (lg_sl ([.ref h0, .int a1]) ++ List.replicate (2 - (lg_sl ([.ref h0, .int a1])).length) Slot.unset).toArray = ls at hl ⊢
  have hl : lv_has ls 2 [(0, .ref h0), (1, .int a1)] := hl
  refine lv_aload_n hx hb dX9_add_0 rfl (lv_at hl 0 rfl) ?_
  refine va_get (D := D) (ci := 9) (v := .ref (ad 19)) (C := RX9) (T := TX9) (N := 44) hx hb hts hin9 hown hK hP 0 rfl rfl 19 (by decide) (hts (.fieldLink RX9 68 "HoneyHouseModel" "code" "[I") (List.mem_of_getElem? (i := 1) rfl)) (fun _ h9 => h9) rfl dX9_add_1 ?_
  refine lv_sipush (v := 200) hx hb dX9_add_4 (by decide) ?_
  refine lv_aload_n hx hb dX9_add_7 rfl (lv_at hl 0 rfl) ?_
  refine va_get (D := D) (ci := 9) (v := .int (iv 14)) (C := RX9) (T := TX9) (N := 44) hx hb hts hin9 hown hK hP 0 rfl rfl 14 (by decide) (hts (.fieldLink RX9 53 "HoneyHouseModel" "rules" "I") (List.mem_of_getElem? (i := 2) rfl)) (fun _ h9 => h9) rfl dX9_add_8 ?_
  refine tp_i (y := nI n14) (h14) ?_
  refine lv_imul hx hb dX9_add_11 ?_
  refine tp_i (y := nI (200 * n14)) (pk_mul 200 n14) ?_
  refine lv_aload_n hx hb dX9_add_12 rfl (lv_at hl 0 rfl) ?_
  refine va_get (D := D) (ci := 9) (v := .int (iv 30)) (C := RX9) (T := TX9) (N := 44) hx hb hts hin9 hown hK hP 0 rfl rfl 30 (by decide) (hts (.fieldLink RX9 102 "HoneyHouseModel" "made" "I") (List.mem_of_getElem? (i := 3) rfl)) (fun _ h9 => h9) rfl dX9_add_13 ?_
  refine tp_i (y := nI n30) (h30) ?_
  refine lv_iadd hx hb dX9_add_16 ?_
  refine tp_i (y := nI ((200 * n14) + n30)) (nI_add (200 * n14) n30) ?_
  refine lv_iload_n hx hb dX9_add_17 rfl (lv_at hl 1 rfl) ?_
  refine va_iast (f := fv 19) (n := 3200) hx hb hK hP hD hS 15 14 rfl rfl (vp_in_nI (n := (200 * n14) + n30) (by omega) (by omega)) dX9_add_18 (fun H locs hP hD hS => ?_)
  have hP : va_P D vwCl (mw h0 ad cs iv (uF fv 19 (upd (fv 19) (nI ((200 * n14) + n30)).toNatClampNeg a1)) gv) H := hP
  have hD : va_D A (mw h0 ad cs iv (uF fv 19 (upd (fv 19) (nI ((200 * n14) + n30)).toNatClampNeg a1)) gv) := hD
  obtain ⟨f_1, hf_2⟩ : ∃ g9, g9 = upd (fv 19) (nI ((200 * n14) + n30)).toNatClampNeg a1 := ⟨_, rfl⟩
  rw [← hf_2] at hP hD
  rw [nI_clamp (n := (200 * n14) + n30) (by omega)] at hf_2
  refine lv_aload_n hx hb dX9_add_19 rfl (lv_at hl 0 rfl) ?_
  refine lv_dup hx hb dX9_add_20 rfl ?_
  refine va_get (D := D) (ci := 9) (v := .int (iv 30)) (C := RX9) (T := TX9) (N := 44) hx hb hts hin9 hown hK hP 0 rfl rfl 30 (by decide) (hts (.fieldLink RX9 102 "HoneyHouseModel" "made" "I") (List.mem_of_getElem? (i := 3) rfl)) (fun _ h9 => h9) rfl dX9_add_21 ?_
  refine tp_i (y := nI n30) (h30) ?_
  refine lv_iconst (v := 1) hx hb dX9_add_24 (by decide) ?_
  refine lv_iadd hx hb dX9_add_25 ?_
  refine tp_i (y := nI (n30 + 1)) (nI_add n30 1) ?_
  refine va_put (D := D) (ci := 9) (v := .int (nI (n30 + 1))) (ty := .int) (C := RX9) (T := TX9) (N := 44) hx hb hts hin9 tyX9 tyX9_ok nmX9 hown hK hP hD hS 0 rfl rfl 30 (by decide) (hts (.fieldLink RX9 102 "HoneyHouseModel" "made" "I") (List.mem_of_getElem? (i := 3) rfl)) (fun _ h9 => h9) rfl (tyX9_ok 30 (by decide)) rfl rfl (Nat.le_of_ble_eq_true rfl) dX9_add_26 (fun H locs hP hD hS => ?_)
  have hP : va_P D vwCl (mw h0 ad cs (upd iv 30 (nI (n30 + 1))) (uF fv 19 f_1) gv) H := hP
  have hD : va_D A (mw h0 ad cs (upd iv 30 (nI (n30 + 1))) (uF fv 19 f_1) gv) := hD
  have hP : va_P D vwCl (mw h0 ad cs (upd iv 30 (nI (n30 + 1))) (uF fv 19 f_1) gv) H := hP
  have hD : va_D A (mw h0 ad cs (upd iv 30 (nI (n30 + 1))) (uF fv 19 f_1) gv) := hD
  exact W.vret hx hb hr (fun t ht hW => ⟨⟨(), rfl, trivial, f_1, hf_2, by rw [ht]; exact hP, va_K.moved hW.alike hK, hD⟩, hS.F ht⟩) hS.2.2 dX9_add_29
set_option maxHeartbeats 4000000 in
set_option maxRecDepth 100000 in
theorem m_test_ (l : Launch) (D : va_G) (h0 : Nat) (ad : Nat → Nat) (cs : Nat → ClassId) (iv : Nat → Int32) (fv : Nat → Nat → Int32) (gv : Nat → Int64) (n14 n21 n25 n26 n30 : Nat)  (sz : Nat) (h14 : iv 14 = nI n14) (h21 : iv 21 = nI n21) (h25 : iv 25 = nI n25) (h26 : iv 26 = nI n26) (h30 : iv 30 = nI n30) (b15 : n14 ≤ 15) (z21 : n21 = 0) (b25 : n25 ≤ n26) (b26 : n26 ≤ 400) (b30 : 2 * n30 ≤ n25) : Met l yX9_test_ wsX9_test_ ({ frames := 3, cells := 0, slots := 0, locals := 67 }) (va_Pc [.ref h0] (fun U => U.heap.size = sz ∧ va_P D vwCl (mw h0 ad cs iv fv gv) U.heap ∧ va_K D vwCl (mT cs) U ∧ va_D (fun _ => True) (mw h0 ad cs iv fv gv))) (va_Qv (fun _ : Unit => True) (fun (_ : Unit) (t : State) => ∃ (k21 : Nat) (p22 : Int32) (k25 : Nat) (k30 : Nat) (f19 : Nat → Int32), (n25 ≤ k25) ∧ (k25 ≤ n26) ∧ (k21 ≤ 3) ∧ ((1 ≤ k21 ∧ k30 = n30 ∧ f19 = fv 19) ∨ (k21 = 0 ∧ k30 = n30 + 4 ∧ n25 + 8 ≤ k25 ∧ (∀ i : Nat, i < 200 * n14 + n30 → f19 i = fv 19 i) ∧ f19 (200 * n14 + n30) = 13 ∧ okT (f19 (200 * n14 + (n30 + 1))))) ∧ va_P D vwCl (mw h0 ad cs (upd (upd (upd (upd iv 21 (nI k21)) 22 p22) 25 (nI k25)) 30 (nI k30)) (uF fv 19 f19) gv) t.heap ∧ va_K D vwCl (mT cs) t ∧ va_D (va_A (mw h0 ad cs iv fv gv) sz) (mw h0 ad cs (upd (upd (upd (upd iv 21 (nI k21)) 22 p22) 25 (nI k25)) 30 (nI k30)) (uF fv 19 f19) gv)) (va_A (mw h0 ad cs iv fv gv) sz)) 0 0 (va_A (mw h0 ad cs iv fv gv) sz) := by
  refine Met.ofW (cc := cX9_test_) (maxL := 5) (ret := none) (by decide) rfl ?_
  intro p e s m args below meth c s₁ B hml hv
  obtain ⟨rfl, hsz, hP, hK, hD0⟩ := hv
  have hx := B.exec
  have hb := B.bytes
  have hr := B.returns
  have hts := atoms_spec (ws := wsX9_test_) B.pre
  have hown : s.vm.findClass RX9 = some m.cls := findClass_of_methodNamed B.named
  have hlocks := B.notSynchronized
  subst hsz
  have hD := hD0.self (sz := s.heap.size)
  generalize hAe : va_A (mw h0 ad cs iv fv gv) s.heap.size = A at hD ⊢
  have hA : ∀ q : Nat, s.heap.size ≤ q → A q := fun q h => by rw [← hAe]; exact Or.inr h
  have hS : va_S A s.heap s.heap [] := va_S.rf
  have hin9 : ∀ w ∈ u_ws RX9 TX9 44, w ∈ wsX9_test_ := (fun _ h9 => List.mem_cons_of_mem _ ((List.mem_append_right _ h9)))
  have hl := lv_entry ([.ref h0]) (n := 5) (Nat.le_of_ble_eq_true rfl)
  rw [lg_entry_eq]
  generalize (lg_sl ([.ref h0]) ++ List.replicate (5 - (lg_sl ([.ref h0])).length) Slot.unset).toArray = ls at hl ⊢
  have hl : lv_has ls 5 [(0, .ref h0)] := hl
  refine lv_aload_n hx hb dX9_test__0 rfl (lv_at hl 0 rfl) ?_
  have hFc := free_all hD hS hA
  refine va_calli (va_runV (As := []) (rest := []) ⟨hx, hb, hml, hown, hts⟩ (m_peek l D h0 ad cs iv fv gv n25 n26  s.heap.size h25 h26 (by omega) (by omega)) (cwV 0 hts gX9_test__X9_peek rfl rfl rfl (by decide +kernel) ⟨Nat.le_of_ble_eq_true rfl, Nat.le_of_ble_eq_true rfl⟩) ⟨fun a U g mk q => by obtain ⟨q0, q1, qP, qK, qD⟩ := q; exact ⟨q0, q1, qP, va_K.moved (u := U) (U := U.calling g mk a) (Vm.Alike.refl U.vm) qK, qD⟩, va_recv hK hP (ci := 9) (q0 := 0) rfl rfl, fun U hU hW => ⟨rfl, by rw [hU], by rw [hU]; exact hP, va_K.moved hW.alike hK, hD.weaken (fun _ _ _ _ => trivial)⟩⟩ rfl rfl hl.1 rfl (lv_room (Nat.le_of_ble_eq_true rfl)) dX9_test__1 ⟨Nat.le_of_ble_eq_true rfl, Nat.le_of_ble_eq_true rfl⟩) hS (fun q _ h => hFc q h) hFc (fun r_1 u t H1 locs ht hvm w_2 hB hz1 hk1 hS => ?_)
  subst w_2
  obtain ⟨k25_3, q_4, q_5, q_6, q_7, hP1, hK1, hD1⟩ := hB
  rw [ht] at hP1
  have hK := va_K.moved hvm.symm hK1
  generalize H1 = H at hP1 hS ⊢
  have hP : va_P D vwCl (mw h0 ad cs (upd iv 25 (nI k25_3)) fv gv) H := hP1
  have hD : va_D A (mw h0 ad cs (upd iv 25 (nI k25_3)) fv gv) := hD1.weaken (fun _ _ _ h => hFc _ h)
  rcases q_7 with rfl | ⟨c_8, e_9, rfl, he_10, hc_11⟩
  · refine lv_istore_n (lv' := [(1, .int (-1)), (0, .ref h0)]) hx hb dX9_test__4 rfl hl (by decide) rfl (fun ls hl => ?_)
    refine lv_iload_n hx hb dX9_test__5 rfl (lv_at hl 0 rfl) ?_
    refine lv_iconst (v := 4) hx hb dX9_test__6 (by decide) ?_
    refine lv_icmp_lt (tgt := 16) hx hb dX9_test__7 (by decide) (fun c_12 => ?_) (fun c_12 => absurd (by decide) c_12)
    refine lv_aload_n hx hb dX9_test__16 rfl (lv_at hl 1 rfl) ?_
    refine lv_iconst (v := 1) hx hb dX9_test__17 (by decide) ?_
    refine lv_aload_n hx hb dX9_test__18 rfl (lv_at hl 1 rfl) ?_
    refine va_get (D := D) (ci := 9) (v := .int (nI k25_3)) (C := RX9) (T := TX9) (N := 44) hx hb hts hin9 hown hK hP 0 rfl rfl 25 (by decide) (hts (.fieldLink RX9 87 "HoneyHouseModel" "at" "I") (List.mem_of_getElem? (i := 1) rfl)) (fun _ h9 => h9) rfl dX9_test__19 ?_
    have hFc := free_all hD hS hA
    refine va_callv (va_runV (As := [.int 1, .int (nI k25_3)]) (rest := []) ⟨hx, hb, hml, hown, hts⟩ (m_blame l D h0 ad cs (upd iv 25 (nI k25_3)) fv gv n21 1 (nI k25_3) H.size h21 (by omega) (by omega)) (cwV 2 hts gX9_test__X9_blame rfl rfl rfl (by decide +kernel) ⟨Nat.le_of_ble_eq_true rfl, Nat.le_of_ble_eq_true rfl⟩) ⟨fun a U g mk q => by obtain ⟨q0, q1, qP, qK, qD⟩ := q; exact ⟨q0, q1, qP, va_K.moved (u := U) (U := U.calling g mk a) (Vm.Alike.refl U.vm) qK, qD⟩, va_recv hK hP (ci := 9) (q0 := 0) rfl rfl, fun U hU hW => ⟨rfl, by rw [hU], by rw [hU]; exact hP, va_K.moved hW.alike hK, hD.weaken (fun _ _ _ _ => trivial)⟩⟩ rfl rfl hl.1 rfl (lv_room (Nat.le_of_ble_eq_true rfl)) dX9_test__22 ⟨Nat.le_of_ble_eq_true rfl, Nat.le_of_ble_eq_true rfl⟩) hS (fun q _ h => hFc q h) hFc (fun u t H1 locs ht hvm w_14 hB hz1 hk1 hS => ?_)
    obtain ⟨k21_15, p22_16, q_17, q_18, hP1, hK1, hD1⟩ := hB
    rw [ht] at hP1
    have hK := va_K.moved hvm.symm hK1
    generalize H1 = H at hP1 hS ⊢
    have hP : va_P D vwCl (mw h0 ad cs (upd (upd (upd iv 21 (nI k21_15)) 22 p22_16) 25 (nI k25_3)) fv gv) H := hP1
    have hD : va_D A (mw h0 ad cs (upd (upd (upd iv 21 (nI k21_15)) 22 p22_16) 25 (nI k25_3)) fv gv) := hD1.weaken (fun _ _ _ h => hFc _ h)
    have hP : va_P D vwCl (mw h0 ad cs (upd (upd (upd (upd iv 21 (nI k21_15)) 22 p22_16) 25 (nI k25_3)) 30 (iv 30)) (uF fv 19 (fv 19)) gv) H := hP
    have hD : va_D A (mw h0 ad cs (upd (upd (upd (upd iv 21 (nI k21_15)) 22 p22_16) 25 (nI k25_3)) 30 (iv 30)) (uF fv 19 (fv 19)) gv) := hD
    have hP := hP
    rw [h30] at hP hD
    exact W.vret hx hb hr (fun t ht hW => ⟨⟨(), rfl, trivial, k21_15, p22_16, k25_3, n30, fv 19, by omega, by omega, by omega, Or.inl ⟨by omega, by omega, rfl⟩, by rw [ht]; exact hP, va_K.moved hW.alike hK, hD⟩, hS.F ht⟩) hS.2.2 dX9_test__25
  have he_10b : k25_3 ≤ e_9 ∧ e_9 ≤ n26 := ⟨he_10.1, he_10.2.1⟩
  refine lv_istore_n (lv' := [(1, .int (nI c_8)), (0, .ref h0)]) hx hb dX9_test__4 rfl hl (by decide) rfl (fun ls hl => ?_)
  refine lv_iload_n hx hb dX9_test__5 rfl (lv_at hl 0 rfl) ?_
  refine lv_iconst (v := 4) hx hb dX9_test__6 (by decide) ?_
  refine lv_icmp_lt (tgt := 16) hx hb dX9_test__7 (by decide) (fun c_19 => ?_) (fun c_19 => ?_)
  · have d_20 := n_lt (a := c_8) (b := 4) (by omega) (by omega) c_19
    refine lv_aload_n hx hb dX9_test__16 rfl (lv_at hl 1 rfl) ?_
    refine lv_iconst (v := 1) hx hb dX9_test__17 (by decide) ?_
    refine lv_aload_n hx hb dX9_test__18 rfl (lv_at hl 1 rfl) ?_
    refine va_get (D := D) (ci := 9) (v := .int (nI k25_3)) (C := RX9) (T := TX9) (N := 44) hx hb hts hin9 hown hK hP 0 rfl rfl 25 (by decide) (hts (.fieldLink RX9 87 "HoneyHouseModel" "at" "I") (List.mem_of_getElem? (i := 1) rfl)) (fun _ h9 => h9) rfl dX9_test__19 ?_
    have hFc := free_all hD hS hA
    refine va_callv (va_runV (As := [.int 1, .int (nI k25_3)]) (rest := []) ⟨hx, hb, hml, hown, hts⟩ (m_blame l D h0 ad cs (upd iv 25 (nI k25_3)) fv gv n21 1 (nI k25_3) H.size h21 (by omega) (by omega)) (cwV 2 hts gX9_test__X9_blame rfl rfl rfl (by decide +kernel) ⟨Nat.le_of_ble_eq_true rfl, Nat.le_of_ble_eq_true rfl⟩) ⟨fun a U g mk q => by obtain ⟨q0, q1, qP, qK, qD⟩ := q; exact ⟨q0, q1, qP, va_K.moved (u := U) (U := U.calling g mk a) (Vm.Alike.refl U.vm) qK, qD⟩, va_recv hK hP (ci := 9) (q0 := 0) rfl rfl, fun U hU hW => ⟨rfl, by rw [hU], by rw [hU]; exact hP, va_K.moved hW.alike hK, hD.weaken (fun _ _ _ _ => trivial)⟩⟩ rfl rfl hl.1 rfl (lv_room (Nat.le_of_ble_eq_true rfl)) dX9_test__22 ⟨Nat.le_of_ble_eq_true rfl, Nat.le_of_ble_eq_true rfl⟩) hS (fun q _ h => hFc q h) hFc (fun u t H1 locs ht hvm w_22 hB hz1 hk1 hS => ?_)
    obtain ⟨k21_23, p22_24, q_25, q_26, hP1, hK1, hD1⟩ := hB
    rw [ht] at hP1
    have hK := va_K.moved hvm.symm hK1
    generalize H1 = H at hP1 hS ⊢
    have hP : va_P D vwCl (mw h0 ad cs (upd (upd (upd iv 21 (nI k21_23)) 22 p22_24) 25 (nI k25_3)) fv gv) H := hP1
    have hD : va_D A (mw h0 ad cs (upd (upd (upd iv 21 (nI k21_23)) 22 p22_24) 25 (nI k25_3)) fv gv) := hD1.weaken (fun _ _ _ h => hFc _ h)
    have hP : va_P D vwCl (mw h0 ad cs (upd (upd (upd (upd iv 21 (nI k21_23)) 22 p22_24) 25 (nI k25_3)) 30 (iv 30)) (uF fv 19 (fv 19)) gv) H := hP
    have hD : va_D A (mw h0 ad cs (upd (upd (upd (upd iv 21 (nI k21_23)) 22 p22_24) 25 (nI k25_3)) 30 (iv 30)) (uF fv 19 (fv 19)) gv) := hD
    have hP := hP
    rw [h30] at hP hD
    exact W.vret hx hb hr (fun t ht hW => ⟨⟨(), rfl, trivial, k21_23, p22_24, k25_3, n30, fv 19, by omega, by omega, by omega, Or.inl ⟨by omega, by omega, rfl⟩, by rw [ht]; exact hP, va_K.moved hW.alike hK, hD⟩, hS.F ht⟩) hS.2.2 dX9_test__25
  have d_27 := n_nlt (a := c_8) (b := 4) (by omega) (by omega) c_19
  refine lv_iload_n hx hb dX9_test__10 rfl (lv_at hl 0 rfl) ?_
  refine lv_bipush (v := 8) hx hb dX9_test__11 (by decide) ?_
  refine lv_icmp_le (tgt := 26) hx hb dX9_test__13 (by decide) (fun c_28 => ?_) (fun c_28 => ?_)
  · have d_29 := n_le (a := c_8) (b := 8) (by omega) (by omega) c_28
    refine lv_aload_n hx hb dX9_test__26 rfl (lv_at hl 1 rfl) ?_
    refine lv_aload_n hx hb dX9_test__27 rfl (lv_at hl 1 rfl) ?_
    refine vp_callSi (W.runV (As := []) (rest := [.ref h0]) ⟨hx, hb, hml, hown, hts⟩ (m_wordEnd l D h0 ad cs (upd iv 25 (nI k25_3)) fv gv k25_3 n26  rfl h26 (by omega) (by omega)) (cwV 0 hts gX9_test__X9_wordEnd rfl rfl rfl (by decide +kernel) ⟨Nat.le_of_ble_eq_true rfl, Nat.le_of_ble_eq_true rfl⟩) ⟨fun a U g mk q => ⟨q.1, q.2.1, va_K.moved (u := U) (U := U.calling g mk a) (Vm.Alike.refl U.vm) q.2.2⟩, va_recv hK hP (ci := 9) (q0 := 0) rfl rfl, fun U hU hW => ⟨rfl, by rw [hU]; exact hP, va_K.moved hW.alike hK⟩⟩ rfl rfl hl.1 rfl (lv_room (Nat.le_of_ble_eq_true rfl)) dX9_test__28 ⟨Nat.le_of_ble_eq_true rfl, Nat.le_of_ble_eq_true rfl⟩) (fun r_30 k_31 => ?_)
    obtain ⟨e_32, rfl, he_33⟩ := k_31
    have hq_e_32 : e_32 = e_9 := he_33.uq he_10
    refine va_put (D := D) (ci := 9) (v := .int (nI e_32)) (ty := .int) (C := RX9) (T := TX9) (N := 44) hx hb hts hin9 tyX9 tyX9_ok nmX9 hown hK hP hD hS 0 rfl rfl 25 (by decide) (hts (.fieldLink RX9 87 "HoneyHouseModel" "at" "I") (List.mem_of_getElem? (i := 1) rfl)) (fun _ h9 => h9) rfl (tyX9_ok 25 (by decide)) rfl rfl (Nat.le_of_ble_eq_true rfl) dX9_test__31 (fun H locs hP hD hS => ?_)
    have hP : va_P D vwCl (mw h0 ad cs (upd iv 25 (nI e_32)) fv gv) H := hP
    have hD : va_D A (mw h0 ad cs (upd iv 25 (nI e_32)) fv gv) := hD
    refine lv_iload_n hx hb dX9_test__34 rfl (lv_at hl 0 rfl) ?_
    refine lv_iconst (v := 4) hx hb dX9_test__35 (by decide) ?_
    refine lv_icmp_ne (tgt := 43) hx hb dX9_test__36 (by decide) (fun c_34 => ?_) (fun c_34 => ?_)
    · have d_35 := n_ne (a := c_8) (b := 4) (by omega) (by omega) c_34
      refine lv_iload_n hx hb dX9_test__43 rfl (lv_at hl 0 rfl) ?_
      refine lv_iconst (v := 5) hx hb dX9_test__44 (by decide) ?_
      refine lv_icmp_ne (tgt := 52) hx hb dX9_test__45 (by decide) (fun c_36 => ?_) (fun c_36 => ?_)
      · have d_37 := n_ne (a := c_8) (b := 5) (by omega) (by omega) c_36
        refine lv_iload_n hx hb dX9_test__52 rfl (lv_at hl 0 rfl) ?_
        refine lv_bipush (v := 6) hx hb dX9_test__53 (by decide) ?_
        refine lv_icmp_ne (tgt := 62) hx hb dX9_test__55 (by decide) (fun c_38 => ?_) (fun c_38 => ?_)
        · have d_39 := n_ne (a := c_8) (b := 6) (by omega) (by omega) c_38
          refine lv_iload_n hx hb dX9_test__62 rfl (lv_at hl 0 rfl) ?_
          refine lv_bipush (v := 7) hx hb dX9_test__63 (by decide) ?_
          refine lv_icmp_ne (tgt := 79) hx hb dX9_test__65 (by decide) (fun c_40 => ?_) (fun c_40 => ?_)
          · have d_41 := n_ne (a := c_8) (b := 7) (by omega) (by omega) c_40
            refine lv_bipush (v := 30) hx hb dX9_test__79 (by decide) ?_
            refine lv_aload_n hx hb dX9_test__81 rfl (lv_at hl 1 rfl) ?_
            refine lv_iconst (v := 3) hx hb dX9_test__82 (by decide) ?_
            have hFc := free_all hD hS hA
            refine va_calli (va_runV (As := [.int 3]) (rest := [.int 30]) ⟨hx, hb, hml, hown, hts⟩ (m_number l D h0 ad cs (upd iv 25 (nI e_32)) fv gv n21 e_32 n26 3 H.size h21 rfl h26 (by omega) (by omega) (by omega) (by omega)) (cwV 1 hts gX9_test__X9_number rfl rfl rfl (by decide +kernel) ⟨Nat.le_of_ble_eq_true rfl, Nat.le_of_ble_eq_true rfl⟩) ⟨fun a U g mk q => by obtain ⟨q0, q1, qP, qK, qD⟩ := q; exact ⟨q0, q1, qP, va_K.moved (u := U) (U := U.calling g mk a) (Vm.Alike.refl U.vm) qK, qD⟩, va_recv hK hP (ci := 9) (q0 := 0) rfl rfl, fun U hU hW => ⟨rfl, by rw [hU], by rw [hU]; exact hP, va_K.moved hW.alike hK, hD.weaken (fun _ _ _ _ => trivial)⟩⟩ rfl rfl hl.1 rfl (lv_room (Nat.le_of_ble_eq_true rfl)) dX9_test__83 ⟨Nat.le_of_ble_eq_true rfl, Nat.le_of_ble_eq_true rfl⟩) hS (fun q _ h => hFc q h) hFc (fun r_42 u t H1 locs ht hvm w_43 hB hz1 hk1 hS => ?_)
            subst w_43
            obtain ⟨k21_44, p22_45, k25_46, q_47, q_48, q_49, q_50, hP1, hK1, hD1⟩ := hB
            rw [ht] at hP1
            have hK := va_K.moved hvm.symm hK1
            generalize H1 = H at hP1 hS ⊢
            have hP : va_P D vwCl (mw h0 ad cs (upd (upd (upd iv 21 (nI k21_44)) 22 p22_45) 25 (nI k25_46)) fv gv) H := hP1
            have hD : va_D A (mw h0 ad cs (upd (upd (upd iv 21 (nI k21_44)) 22 p22_45) 25 (nI k25_46)) fv gv) := hD1.weaken (fun _ _ _ h => hFc _ h)
            rcases q_50 with hp_51 | ⟨rfl, hg_53, v_54, hv_55, rfl⟩
            · refine lv_iadd hx hb dX9_test__86 ?_
              refine lv_istore_n (lv' := [(2, .int (30 + r_42)), (1, .int (nI c_8)), (0, .ref h0)]) hx hb dX9_test__87 rfl hl (by decide) rfl (fun ls hl => ?_)
              refine lv_aload_n hx hb dX9_test__88 rfl (lv_at hl 2 rfl) ?_
              refine va_get (D := D) (ci := 9) (v := .int (nI k21_44)) (C := RX9) (T := TX9) (N := 44) hx hb hts hin9 hown hK hP 0 rfl rfl 21 (by decide) (hts (.fieldLink RX9 74 "HoneyHouseModel" "faultKind" "I") (List.mem_of_getElem? (i := 2) rfl)) (fun _ h9 => h9) rfl dX9_test__89 ?_
              refine lv_if_le (tgt := 96) hx hb dX9_test__92 (by decide) (fun c_56 => absurd c_56 (nI_nle (n := k21_44) (by omega) (by omega))) (fun c_56 => ?_)
              have hP : va_P D vwCl (mw h0 ad cs (upd (upd (upd (upd iv 21 (nI k21_44)) 22 p22_45) 25 (nI k25_46)) 30 (iv 30)) (uF fv 19 (fv 19)) gv) H := hP
              have hD : va_D A (mw h0 ad cs (upd (upd (upd (upd iv 21 (nI k21_44)) 22 p22_45) 25 (nI k25_46)) 30 (iv 30)) (uF fv 19 (fv 19)) gv) := hD
              have hP := hP
              rw [h30] at hP hD
              exact W.vret hx hb hr (fun t ht hW => ⟨⟨(), rfl, trivial, k21_44, p22_45, k25_46, n30, fv 19, by omega, by omega, by omega, Or.inl ⟨by omega, by omega, rfl⟩, by rw [ht]; exact hP, va_K.moved hW.alike hK, hD⟩, hS.F ht⟩) hS.2.2 dX9_test__95
            refine lv_iadd hx hb dX9_test__86 ?_
            refine tp_i (y := nI (30 + v_54)) (nI_add 30 v_54) ?_
            refine lv_istore_n (lv' := [(2, .int (nI (30 + v_54))), (1, .int (nI c_8)), (0, .ref h0)]) hx hb dX9_test__87 rfl hl (by decide) rfl (fun ls hl => ?_)
            refine lv_aload_n hx hb dX9_test__88 rfl (lv_at hl 2 rfl) ?_
            refine va_get (D := D) (ci := 9) (v := .int (nI 0)) (C := RX9) (T := TX9) (N := 44) hx hb hts hin9 hown hK hP 0 rfl rfl 21 (by decide) (hts (.fieldLink RX9 74 "HoneyHouseModel" "faultKind" "I") (List.mem_of_getElem? (i := 2) rfl)) (fun _ h9 => h9) rfl dX9_test__89 ?_
            refine lv_if_le (tgt := 96) hx hb dX9_test__92 (by decide) (fun c_57 => ?_) (fun c_57 => absurd (by decide) c_57)
            refine lv_aload_n hx hb dX9_test__96 rfl (lv_at hl 2 rfl) ?_
            have hFc := free_all hD hS hA
            refine va_calli (va_runV (As := []) (rest := []) ⟨hx, hb, hml, hown, hts⟩ (m_peek l D h0 ad cs (upd (upd (upd iv 21 (nI 0)) 22 p22_45) 25 (nI k25_46)) fv gv k25_46 n26  H.size rfl h26 (by omega) (by omega)) (cwV 0 hts gX9_test__X9_peek rfl rfl rfl (by decide +kernel) ⟨Nat.le_of_ble_eq_true rfl, Nat.le_of_ble_eq_true rfl⟩) ⟨fun a U g mk q => by obtain ⟨q0, q1, qP, qK, qD⟩ := q; exact ⟨q0, q1, qP, va_K.moved (u := U) (U := U.calling g mk a) (Vm.Alike.refl U.vm) qK, qD⟩, va_recv hK hP (ci := 9) (q0 := 0) rfl rfl, fun U hU hW => ⟨rfl, by rw [hU], by rw [hU]; exact hP, va_K.moved hW.alike hK, hD.weaken (fun _ _ _ _ => trivial)⟩⟩ rfl rfl hl.1 rfl (lv_room (Nat.le_of_ble_eq_true rfl)) dX9_test__97 ⟨Nat.le_of_ble_eq_true rfl, Nat.le_of_ble_eq_true rfl⟩) hS (fun q _ h => hFc q h) hFc (fun r_58 u t H1 locs ht hvm w_59 hB hz1 hk1 hS => ?_)
            subst w_59
            obtain ⟨k25_60, q_61, q_62, q_63, q_64, hP1, hK1, hD1⟩ := hB
            replace q_63 : (k25_46 = n26 ∨ ¬ blk ((fv 0) k25_46)) → k25_60 = k25_46 := q_63
            replace q_64 : r_58 = (-1) ∨ ∃ c e : Nat, r_58 = nI c ∧ isE ((fv 0)) n26 k25_60 e ∧ ((c = 0 ∧ e = k25_60 + 4) ∨ (c = 1 ∧ e = k25_60 + 2) ∨ (c = 2 ∧ e = k25_60 + 3) ∨ (c = 3 ∧ e = k25_60 + 3) ∨ (c = 4 ∧ e = k25_60 + 5) ∨ (c = 5 ∧ e = k25_60 + 6) ∨ (c = 6 ∧ e = k25_60 + 4) ∨ (c = 7 ∧ e = k25_60 + 6) ∨ (c = 8 ∧ e = k25_60 + 4) ∨ (c = 9 ∧ e = k25_60 + 3) ∨ (c = 10 ∧ e = k25_60 + 3) ∨ c = 11) := q_64
            rw [ht] at hP1
            have hK := va_K.moved hvm.symm hK1
            generalize H1 = H at hP1 hS ⊢
            have hP : va_P D vwCl (mw h0 ad cs (upd (upd (upd iv 21 (nI 0)) 22 p22_45) 25 (nI k25_60)) fv gv) H := hP1
            have hD : va_D A (mw h0 ad cs (upd (upd (upd iv 21 (nI 0)) 22 p22_45) 25 (nI k25_60)) fv gv) := hD1.weaken (fun _ _ _ h => hFc _ h)
            rcases q_64 with rfl | ⟨c_65, e_66, rfl, he_67, hc_68⟩
            · refine lv_istore_n (lv' := [(3, .int (-1)), (2, .int (nI (30 + v_54))), (1, .int (nI c_8)), (0, .ref h0)]) hx hb dX9_test__100 rfl hl (by decide) rfl (fun ls hl => ?_)
              refine lv_iload_n hx hb dX9_test__101 rfl (lv_at hl 0 rfl) ?_
              refine lv_bipush (v := 9) hx hb dX9_test__102 (by decide) ?_
              refine lv_icmp_eq (tgt := 123) hx hb dX9_test__104 (by decide) (fun c_69 => absurd c_69 (by decide)) (fun c_69 => ?_)
              refine lv_iload_n hx hb dX9_test__107 rfl (lv_at hl 0 rfl) ?_
              refine lv_bipush (v := 10) hx hb dX9_test__108 (by decide) ?_
              refine lv_icmp_eq (tgt := 123) hx hb dX9_test__110 (by decide) (fun c_70 => absurd c_70 (by decide)) (fun c_70 => ?_)
              refine lv_aload_n hx hb dX9_test__113 rfl (lv_at hl 3 rfl) ?_
              refine lv_iconst (v := 1) hx hb dX9_test__114 (by decide) ?_
              refine lv_aload_n hx hb dX9_test__115 rfl (lv_at hl 3 rfl) ?_
              refine va_get (D := D) (ci := 9) (v := .int (nI k25_60)) (C := RX9) (T := TX9) (N := 44) hx hb hts hin9 hown hK hP 0 rfl rfl 25 (by decide) (hts (.fieldLink RX9 87 "HoneyHouseModel" "at" "I") (List.mem_of_getElem? (i := 1) rfl)) (fun _ h9 => h9) rfl dX9_test__116 ?_
              have hFc := free_all hD hS hA
              refine va_callv (va_runV (As := [.int 1, .int (nI k25_60)]) (rest := []) ⟨hx, hb, hml, hown, hts⟩ (m_blame l D h0 ad cs (upd (upd (upd iv 21 (nI 0)) 22 p22_45) 25 (nI k25_60)) fv gv 0 1 (nI k25_60) H.size rfl (by omega) (by omega)) (cwV 2 hts gX9_test__X9_blame rfl rfl rfl (by decide +kernel) ⟨Nat.le_of_ble_eq_true rfl, Nat.le_of_ble_eq_true rfl⟩) ⟨fun a U g mk q => by obtain ⟨q0, q1, qP, qK, qD⟩ := q; exact ⟨q0, q1, qP, va_K.moved (u := U) (U := U.calling g mk a) (Vm.Alike.refl U.vm) qK, qD⟩, va_recv hK hP (ci := 9) (q0 := 0) rfl rfl, fun U hU hW => ⟨rfl, by rw [hU], by rw [hU]; exact hP, va_K.moved hW.alike hK, hD.weaken (fun _ _ _ _ => trivial)⟩⟩ rfl rfl hl.1 rfl (lv_room (Nat.le_of_ble_eq_true rfl)) dX9_test__119 ⟨Nat.le_of_ble_eq_true rfl, Nat.le_of_ble_eq_true rfl⟩) hS (fun q _ h => hFc q h) hFc (fun u t H1 locs ht hvm w_72 hB hz1 hk1 hS => ?_)
              obtain ⟨k21_73, p22_74, q_75, q_76, hP1, hK1, hD1⟩ := hB
              rw [ht] at hP1
              have hK := va_K.moved hvm.symm hK1
              generalize H1 = H at hP1 hS ⊢
              have hP : va_P D vwCl (mw h0 ad cs (upd (upd (upd iv 21 (nI k21_73)) 22 p22_74) 25 (nI k25_60)) fv gv) H := hP1
              have hD : va_D A (mw h0 ad cs (upd (upd (upd iv 21 (nI k21_73)) 22 p22_74) 25 (nI k25_60)) fv gv) := hD1.weaken (fun _ _ _ h => hFc _ h)
              have hP : va_P D vwCl (mw h0 ad cs (upd (upd (upd (upd iv 21 (nI k21_73)) 22 p22_74) 25 (nI k25_60)) 30 (iv 30)) (uF fv 19 (fv 19)) gv) H := hP
              have hD : va_D A (mw h0 ad cs (upd (upd (upd (upd iv 21 (nI k21_73)) 22 p22_74) 25 (nI k25_60)) 30 (iv 30)) (uF fv 19 (fv 19)) gv) := hD
              have hP := hP
              rw [h30] at hP hD
              exact W.vret hx hb hr (fun t ht hW => ⟨⟨(), rfl, trivial, k21_73, p22_74, k25_60, n30, fv 19, by omega, by omega, by omega, Or.inl ⟨by omega, by omega, rfl⟩, by rw [ht]; exact hP, va_K.moved hW.alike hK, hD⟩, hS.F ht⟩) hS.2.2 dX9_test__122
            have he_67b : k25_60 ≤ e_66 ∧ e_66 ≤ n26 := ⟨he_67.1, he_67.2.1⟩
            refine lv_istore_n (lv' := [(3, .int (nI c_65)), (2, .int (nI (30 + v_54))), (1, .int (nI c_8)), (0, .ref h0)]) hx hb dX9_test__100 rfl hl (by decide) rfl (fun ls hl => ?_)
            refine lv_iload_n hx hb dX9_test__101 rfl (lv_at hl 0 rfl) ?_
            refine lv_bipush (v := 9) hx hb dX9_test__102 (by decide) ?_
            refine lv_icmp_eq (tgt := 123) hx hb dX9_test__104 (by decide) (fun c_77 => ?_) (fun c_77 => ?_)
            · have d_78 := n_eq (a := c_65) (b := 9) (by omega) (by omega) c_77
              refine lv_aload_n hx hb dX9_test__123 rfl (lv_at hl 3 rfl) ?_
              refine lv_aload_n hx hb dX9_test__124 rfl (lv_at hl 3 rfl) ?_
              refine vp_callSi (W.runV (As := []) (rest := [.ref h0]) ⟨hx, hb, hml, hown, hts⟩ (m_wordEnd l D h0 ad cs (upd (upd (upd iv 21 (nI 0)) 22 p22_45) 25 (nI k25_60)) fv gv k25_60 n26  rfl h26 (by omega) (by omega)) (cwV 0 hts gX9_test__X9_wordEnd rfl rfl rfl (by decide +kernel) ⟨Nat.le_of_ble_eq_true rfl, Nat.le_of_ble_eq_true rfl⟩) ⟨fun a U g mk q => ⟨q.1, q.2.1, va_K.moved (u := U) (U := U.calling g mk a) (Vm.Alike.refl U.vm) q.2.2⟩, va_recv hK hP (ci := 9) (q0 := 0) rfl rfl, fun U hU hW => ⟨rfl, by rw [hU]; exact hP, va_K.moved hW.alike hK⟩⟩ rfl rfl hl.1 rfl (lv_room (Nat.le_of_ble_eq_true rfl)) dX9_test__125 ⟨Nat.le_of_ble_eq_true rfl, Nat.le_of_ble_eq_true rfl⟩) (fun r_79 k_80 => ?_)
              obtain ⟨e_81, rfl, he_82⟩ := k_80
              have hq_e_81 : e_81 = e_66 := he_82.uq he_67
              refine va_put (D := D) (ci := 9) (v := .int (nI e_81)) (ty := .int) (C := RX9) (T := TX9) (N := 44) hx hb hts hin9 tyX9 tyX9_ok nmX9 hown hK hP hD hS 0 rfl rfl 25 (by decide) (hts (.fieldLink RX9 87 "HoneyHouseModel" "at" "I") (List.mem_of_getElem? (i := 1) rfl)) (fun _ h9 => h9) rfl (tyX9_ok 25 (by decide)) rfl rfl (Nat.le_of_ble_eq_true rfl) dX9_test__128 (fun H locs hP hD hS => ?_)
              have hP : va_P D vwCl (mw h0 ad cs (upd (upd (upd iv 21 (nI 0)) 22 p22_45) 25 (nI e_81)) fv gv) H := hP
              have hD : va_D A (mw h0 ad cs (upd (upd (upd iv 21 (nI 0)) 22 p22_45) 25 (nI e_81)) fv gv) := hD
              refine lv_aload_n hx hb dX9_test__131 rfl (lv_at hl 3 rfl) ?_
              refine lv_sipush (v := 1000) hx hb dX9_test__132 (by decide) ?_
              have hFc := free_all hD hS hA
              refine va_calli (va_runV (As := [.int 1000]) (rest := []) ⟨hx, hb, hml, hown, hts⟩ (m_number l D h0 ad cs (upd (upd (upd iv 21 (nI 0)) 22 p22_45) 25 (nI e_81)) fv gv 0 e_81 n26 1000 H.size rfl rfl h26 (by omega) (by omega) (by omega) (by omega)) (cwV 1 hts gX9_test__X9_number rfl rfl rfl (by decide +kernel) ⟨Nat.le_of_ble_eq_true rfl, Nat.le_of_ble_eq_true rfl⟩) ⟨fun a U g mk q => by obtain ⟨q0, q1, qP, qK, qD⟩ := q; exact ⟨q0, q1, qP, va_K.moved (u := U) (U := U.calling g mk a) (Vm.Alike.refl U.vm) qK, qD⟩, va_recv hK hP (ci := 9) (q0 := 0) rfl rfl, fun U hU hW => ⟨rfl, by rw [hU], by rw [hU]; exact hP, va_K.moved hW.alike hK, hD.weaken (fun _ _ _ _ => trivial)⟩⟩ rfl rfl hl.1 rfl (lv_room (Nat.le_of_ble_eq_true rfl)) dX9_test__135 ⟨Nat.le_of_ble_eq_true rfl, Nat.le_of_ble_eq_true rfl⟩) hS (fun q _ h => hFc q h) hFc (fun r_83 u t H1 locs ht hvm w_84 hB hz1 hk1 hS => ?_)
              subst w_84
              obtain ⟨k21_85, p22_86, k25_87, q_88, q_89, q_90, q_91, hP1, hK1, hD1⟩ := hB
              rw [ht] at hP1
              have hK := va_K.moved hvm.symm hK1
              generalize H1 = H at hP1 hS ⊢
              have hP : va_P D vwCl (mw h0 ad cs (upd (upd (upd iv 21 (nI k21_85)) 22 p22_86) 25 (nI k25_87)) fv gv) H := hP1
              have hD : va_D A (mw h0 ad cs (upd (upd (upd iv 21 (nI k21_85)) 22 p22_86) 25 (nI k25_87)) fv gv) := hD1.weaken (fun _ _ _ h => hFc _ h)
              rcases q_91 with hp_92 | ⟨rfl, hg_94, v_95, hv_96, rfl⟩
              · refine lv_istore (lv' := [(4, .int r_83), (3, .int (nI c_65)), (2, .int (nI (30 + v_54))), (1, .int (nI c_8)), (0, .ref h0)]) hx hb dX9_test__138 hl (by decide) rfl (fun ls hl => ?_)
                refine lv_aload_n hx hb dX9_test__140 rfl (lv_at hl 4 rfl) ?_
                refine va_get (D := D) (ci := 9) (v := .int (nI k21_85)) (C := RX9) (T := TX9) (N := 44) hx hb hts hin9 hown hK hP 0 rfl rfl 21 (by decide) (hts (.fieldLink RX9 74 "HoneyHouseModel" "faultKind" "I") (List.mem_of_getElem? (i := 2) rfl)) (fun _ h9 => h9) rfl dX9_test__141 ?_
                refine lv_if_le (tgt := 148) hx hb dX9_test__144 (by decide) (fun c_97 => absurd c_97 (nI_nle (n := k21_85) (by omega) (by omega))) (fun c_97 => ?_)
                have hP : va_P D vwCl (mw h0 ad cs (upd (upd (upd (upd iv 21 (nI k21_85)) 22 p22_86) 25 (nI k25_87)) 30 (iv 30)) (uF fv 19 (fv 19)) gv) H := hP
                have hD : va_D A (mw h0 ad cs (upd (upd (upd (upd iv 21 (nI k21_85)) 22 p22_86) 25 (nI k25_87)) 30 (iv 30)) (uF fv 19 (fv 19)) gv) := hD
                have hP := hP
                rw [h30] at hP hD
                exact W.vret hx hb hr (fun t ht hW => ⟨⟨(), rfl, trivial, k21_85, p22_86, k25_87, n30, fv 19, by omega, by omega, by omega, Or.inl ⟨by omega, by omega, rfl⟩, by rw [ht]; exact hP, va_K.moved hW.alike hK, hD⟩, hS.F ht⟩) hS.2.2 dX9_test__147
              refine lv_istore (lv' := [(4, .int (nI v_95)), (3, .int (nI c_65)), (2, .int (nI (30 + v_54))), (1, .int (nI c_8)), (0, .ref h0)]) hx hb dX9_test__138 hl (by decide) rfl (fun ls hl => ?_)
              refine lv_aload_n hx hb dX9_test__140 rfl (lv_at hl 4 rfl) ?_
              refine va_get (D := D) (ci := 9) (v := .int (nI 0)) (C := RX9) (T := TX9) (N := 44) hx hb hts hin9 hown hK hP 0 rfl rfl 21 (by decide) (hts (.fieldLink RX9 74 "HoneyHouseModel" "faultKind" "I") (List.mem_of_getElem? (i := 2) rfl)) (fun _ h9 => h9) rfl dX9_test__141 ?_
              refine lv_if_le (tgt := 148) hx hb dX9_test__144 (by decide) (fun c_98 => ?_) (fun c_98 => absurd (by decide) c_98)
              refine lv_aload_n hx hb dX9_test__148 rfl (lv_at hl 4 rfl) ?_
              refine lv_bipush (v := 13) hx hb dX9_test__149 (by decide) ?_
              have hFc := free_all hD hS hA
              refine va_callv (va_runV (As := [.int 13]) (rest := []) ⟨hx, hb, hml, hown, hts⟩ (m_add l D h0 ad cs (upd (upd (upd iv 21 (nI 0)) 22 p22_86) 25 (nI k25_87)) fv gv n14 n30 13 H.size h14 h30 (by omega) (by omega)) (cwV 1 hts gX9_test__X9_add rfl rfl rfl (by decide +kernel) ⟨Nat.le_of_ble_eq_true rfl, Nat.le_of_ble_eq_true rfl⟩) ⟨fun a U g mk q => by obtain ⟨q0, q1, qP, qK, qD⟩ := q; exact ⟨q0, q1, qP, va_K.moved (u := U) (U := U.calling g mk a) (Vm.Alike.refl U.vm) qK, qD⟩, va_recv hK hP (ci := 9) (q0 := 0) rfl rfl, fun U hU hW => ⟨rfl, by rw [hU], by rw [hU]; exact hP, va_K.moved hW.alike hK, hD.weaken (fun _ _ _ _ => trivial)⟩⟩ rfl rfl hl.1 rfl (lv_room (Nat.le_of_ble_eq_true rfl)) dX9_test__151 ⟨Nat.le_of_ble_eq_true rfl, Nat.le_of_ble_eq_true rfl⟩) hS (fun q _ h => hFc q h) hFc (fun u t H1 locs ht hvm w_100 hB hz1 hk1 hS => ?_)
              obtain ⟨f19_101, q_102, hP1, hK1, hD1⟩ := hB
              replace q_102 : f19_101 = upd ((fv 19)) (200 * n14 + n30) 13 := q_102
              rw [ht] at hP1
              have hK := va_K.moved hvm.symm hK1
              generalize H1 = H at hP1 hS ⊢
              have hP : va_P D vwCl (mw h0 ad cs (upd (upd (upd (upd iv 21 (nI 0)) 22 p22_86) 25 (nI k25_87)) 30 (nI (n30 + 1))) (uF fv 19 f19_101) gv) H := hP1
              have hD : va_D A (mw h0 ad cs (upd (upd (upd (upd iv 21 (nI 0)) 22 p22_86) 25 (nI k25_87)) 30 (nI (n30 + 1))) (uF fv 19 f19_101) gv) := hD1.weaken (fun _ _ _ h => hFc _ h)
              refine lv_aload_n hx hb dX9_test__154 rfl (lv_at hl 4 rfl) ?_
              refine lv_iload_n hx hb dX9_test__155 rfl (lv_at hl 2 rfl) ?_
              have hFc := free_all hD hS hA
              refine va_callv (va_runV (As := [.int (nI (30 + v_54))]) (rest := []) ⟨hx, hb, hml, hown, hts⟩ (m_add l D h0 ad cs (upd (upd (upd (upd iv 21 (nI 0)) 22 p22_86) 25 (nI k25_87)) 30 (nI (n30 + 1))) (uF fv 19 f19_101) gv n14 (n30 + 1) (nI (30 + v_54)) H.size h14 rfl (by omega) (by omega)) (cwV 1 hts gX9_test__X9_add rfl rfl rfl (by decide +kernel) ⟨Nat.le_of_ble_eq_true rfl, Nat.le_of_ble_eq_true rfl⟩) ⟨fun a U g mk q => by obtain ⟨q0, q1, qP, qK, qD⟩ := q; exact ⟨q0, q1, qP, va_K.moved (u := U) (U := U.calling g mk a) (Vm.Alike.refl U.vm) qK, qD⟩, va_recv hK hP (ci := 9) (q0 := 0) rfl rfl, fun U hU hW => ⟨rfl, by rw [hU], by rw [hU]; exact hP, va_K.moved hW.alike hK, hD.weaken (fun _ _ _ _ => trivial)⟩⟩ rfl rfl hl.1 rfl (lv_room (Nat.le_of_ble_eq_true rfl)) dX9_test__156 ⟨Nat.le_of_ble_eq_true rfl, Nat.le_of_ble_eq_true rfl⟩) hS (fun q _ h => hFc q h) hFc (fun u t H1 locs ht hvm w_104 hB hz1 hk1 hS => ?_)
              obtain ⟨f19_105, q_106, hP1, hK1, hD1⟩ := hB
              replace q_106 : f19_105 = upd ((f19_101)) (200 * n14 + (n30 + 1)) (nI (30 + v_54)) := q_106
              rw [ht] at hP1
              have hK := va_K.moved hvm.symm hK1
              generalize H1 = H at hP1 hS ⊢
              have hP : va_P D vwCl (mw h0 ad cs (upd (upd (upd (upd iv 21 (nI 0)) 22 p22_86) 25 (nI k25_87)) 30 (nI ((n30 + 1) + 1))) (uF fv 19 f19_105) gv) H := hP1
              have hD : va_D A (mw h0 ad cs (upd (upd (upd (upd iv 21 (nI 0)) 22 p22_86) 25 (nI k25_87)) 30 (nI ((n30 + 1) + 1))) (uF fv 19 f19_105) gv) := hD1.weaken (fun _ _ _ h => hFc _ h)
              refine lv_aload_n hx hb dX9_test__159 rfl (lv_at hl 4 rfl) ?_
              refine lv_iload_n hx hb dX9_test__160 rfl (lv_at hl 1 rfl) ?_
              have hFc := free_all hD hS hA
              refine va_callv (va_runV (As := [.int (nI c_65)]) (rest := []) ⟨hx, hb, hml, hown, hts⟩ (m_add l D h0 ad cs (upd (upd (upd (upd iv 21 (nI 0)) 22 p22_86) 25 (nI k25_87)) 30 (nI ((n30 + 1) + 1))) (uF fv 19 f19_105) gv n14 ((n30 + 1) + 1) (nI c_65) H.size h14 rfl (by omega) (by omega)) (cwV 1 hts gX9_test__X9_add rfl rfl rfl (by decide +kernel) ⟨Nat.le_of_ble_eq_true rfl, Nat.le_of_ble_eq_true rfl⟩) ⟨fun a U g mk q => by obtain ⟨q0, q1, qP, qK, qD⟩ := q; exact ⟨q0, q1, qP, va_K.moved (u := U) (U := U.calling g mk a) (Vm.Alike.refl U.vm) qK, qD⟩, va_recv hK hP (ci := 9) (q0 := 0) rfl rfl, fun U hU hW => ⟨rfl, by rw [hU], by rw [hU]; exact hP, va_K.moved hW.alike hK, hD.weaken (fun _ _ _ _ => trivial)⟩⟩ rfl rfl hl.1 rfl (lv_room (Nat.le_of_ble_eq_true rfl)) dX9_test__161 ⟨Nat.le_of_ble_eq_true rfl, Nat.le_of_ble_eq_true rfl⟩) hS (fun q _ h => hFc q h) hFc (fun u t H1 locs ht hvm w_108 hB hz1 hk1 hS => ?_)
              obtain ⟨f19_109, q_110, hP1, hK1, hD1⟩ := hB
              replace q_110 : f19_109 = upd ((f19_105)) (200 * n14 + ((n30 + 1) + 1)) (nI c_65) := q_110
              rw [ht] at hP1
              have hK := va_K.moved hvm.symm hK1
              generalize H1 = H at hP1 hS ⊢
              have hP : va_P D vwCl (mw h0 ad cs (upd (upd (upd (upd iv 21 (nI 0)) 22 p22_86) 25 (nI k25_87)) 30 (nI (((n30 + 1) + 1) + 1))) (uF fv 19 f19_109) gv) H := hP1
              have hD : va_D A (mw h0 ad cs (upd (upd (upd (upd iv 21 (nI 0)) 22 p22_86) 25 (nI k25_87)) 30 (nI (((n30 + 1) + 1) + 1))) (uF fv 19 f19_109) gv) := hD1.weaken (fun _ _ _ h => hFc _ h)
              refine lv_aload_n hx hb dX9_test__164 rfl (lv_at hl 4 rfl) ?_
              refine lv_iload hx hb dX9_test__165 (lv_at hl 0 rfl) ?_
              have hFc := free_all hD hS hA
              refine va_callv (va_runV (As := [.int (nI v_95)]) (rest := []) ⟨hx, hb, hml, hown, hts⟩ (m_add l D h0 ad cs (upd (upd (upd (upd iv 21 (nI 0)) 22 p22_86) 25 (nI k25_87)) 30 (nI (((n30 + 1) + 1) + 1))) (uF fv 19 f19_109) gv n14 (((n30 + 1) + 1) + 1) (nI v_95) H.size h14 rfl (by omega) (by omega)) (cwV 1 hts gX9_test__X9_add rfl rfl rfl (by decide +kernel) ⟨Nat.le_of_ble_eq_true rfl, Nat.le_of_ble_eq_true rfl⟩) ⟨fun a U g mk q => by obtain ⟨q0, q1, qP, qK, qD⟩ := q; exact ⟨q0, q1, qP, va_K.moved (u := U) (U := U.calling g mk a) (Vm.Alike.refl U.vm) qK, qD⟩, va_recv hK hP (ci := 9) (q0 := 0) rfl rfl, fun U hU hW => ⟨rfl, by rw [hU], by rw [hU]; exact hP, va_K.moved hW.alike hK, hD.weaken (fun _ _ _ _ => trivial)⟩⟩ rfl rfl hl.1 rfl (lv_room (Nat.le_of_ble_eq_true rfl)) dX9_test__167 ⟨Nat.le_of_ble_eq_true rfl, Nat.le_of_ble_eq_true rfl⟩) hS (fun q _ h => hFc q h) hFc (fun u t H1 locs ht hvm w_112 hB hz1 hk1 hS => ?_)
              obtain ⟨f19_113, q_114, hP1, hK1, hD1⟩ := hB
              replace q_114 : f19_113 = upd ((f19_109)) (200 * n14 + (((n30 + 1) + 1) + 1)) (nI v_95) := q_114
              rw [ht] at hP1
              have hK := va_K.moved hvm.symm hK1
              generalize H1 = H at hP1 hS ⊢
              have hP : va_P D vwCl (mw h0 ad cs (upd (upd (upd (upd iv 21 (nI 0)) 22 p22_86) 25 (nI k25_87)) 30 (nI ((((n30 + 1) + 1) + 1) + 1))) (uF fv 19 f19_113) gv) H := hP1
              have hD : va_D A (mw h0 ad cs (upd (upd (upd (upd iv 21 (nI 0)) 22 p22_86) 25 (nI k25_87)) 30 (nI ((((n30 + 1) + 1) + 1) + 1))) (uF fv 19 f19_113) gv) := hD1.weaken (fun _ _ _ h => hFc _ h)
              have hP : va_P D vwCl (mw h0 ad cs (upd (upd (upd (upd iv 21 (nI 0)) 22 p22_86) 25 (nI k25_87)) 30 (nI ((((n30 + 1) + 1) + 1) + 1))) (uF fv 19 f19_113) gv) H := hP
              have hD : va_D A (mw h0 ad cs (upd (upd (upd (upd iv 21 (nI 0)) 22 p22_86) 25 (nI k25_87)) 30 (nI ((((n30 + 1) + 1) + 1) + 1))) (uF fv 19 f19_113) gv) := hD
              exact W.vret hx hb hr (fun t ht hW => ⟨⟨(), rfl, trivial, 0, p22_86, k25_87, (((n30 + 1) + 1) + 1) + 1, f19_113, by omega, by omega, by omega, Or.inr ⟨by omega, by omega, by omega, fun i h9 => by rw [q_114, up_ne (by omega), q_110, up_ne (by omega), q_106, up_ne (by omega), q_102, up_ne (by omega)], by rw [q_114, up_ne (by omega), q_110, up_ne (by omega), q_106, up_ne (by omega), q_102, up_eq], by rw [q_114, up_ne (by omega), q_110, up_ne (by omega), q_106, up_eq]; exact ⟨30 + v_54, by omega, rfl⟩⟩, by rw [ht]; exact hP, va_K.moved hW.alike hK, hD⟩, hS.F ht⟩) hS.2.2 dX9_test__170
            have d_115 := n_ne (a := c_65) (b := 9) (by omega) (by omega) c_77
            refine lv_iload_n hx hb dX9_test__107 rfl (lv_at hl 0 rfl) ?_
            refine lv_bipush (v := 10) hx hb dX9_test__108 (by decide) ?_
            refine lv_icmp_eq (tgt := 123) hx hb dX9_test__110 (by decide) (fun c_116 => ?_) (fun c_116 => ?_)
            · have d_117 := n_eq (a := c_65) (b := 10) (by omega) (by omega) c_116
              refine lv_aload_n hx hb dX9_test__123 rfl (lv_at hl 3 rfl) ?_
              refine lv_aload_n hx hb dX9_test__124 rfl (lv_at hl 3 rfl) ?_
              refine vp_callSi (W.runV (As := []) (rest := [.ref h0]) ⟨hx, hb, hml, hown, hts⟩ (m_wordEnd l D h0 ad cs (upd (upd (upd iv 21 (nI 0)) 22 p22_45) 25 (nI k25_60)) fv gv k25_60 n26  rfl h26 (by omega) (by omega)) (cwV 0 hts gX9_test__X9_wordEnd rfl rfl rfl (by decide +kernel) ⟨Nat.le_of_ble_eq_true rfl, Nat.le_of_ble_eq_true rfl⟩) ⟨fun a U g mk q => ⟨q.1, q.2.1, va_K.moved (u := U) (U := U.calling g mk a) (Vm.Alike.refl U.vm) q.2.2⟩, va_recv hK hP (ci := 9) (q0 := 0) rfl rfl, fun U hU hW => ⟨rfl, by rw [hU]; exact hP, va_K.moved hW.alike hK⟩⟩ rfl rfl hl.1 rfl (lv_room (Nat.le_of_ble_eq_true rfl)) dX9_test__125 ⟨Nat.le_of_ble_eq_true rfl, Nat.le_of_ble_eq_true rfl⟩) (fun r_118 k_119 => ?_)
              obtain ⟨e_120, rfl, he_121⟩ := k_119
              have hq_e_120 : e_120 = e_66 := he_121.uq he_67
              refine va_put (D := D) (ci := 9) (v := .int (nI e_120)) (ty := .int) (C := RX9) (T := TX9) (N := 44) hx hb hts hin9 tyX9 tyX9_ok nmX9 hown hK hP hD hS 0 rfl rfl 25 (by decide) (hts (.fieldLink RX9 87 "HoneyHouseModel" "at" "I") (List.mem_of_getElem? (i := 1) rfl)) (fun _ h9 => h9) rfl (tyX9_ok 25 (by decide)) rfl rfl (Nat.le_of_ble_eq_true rfl) dX9_test__128 (fun H locs hP hD hS => ?_)
              have hP : va_P D vwCl (mw h0 ad cs (upd (upd (upd iv 21 (nI 0)) 22 p22_45) 25 (nI e_120)) fv gv) H := hP
              have hD : va_D A (mw h0 ad cs (upd (upd (upd iv 21 (nI 0)) 22 p22_45) 25 (nI e_120)) fv gv) := hD
              refine lv_aload_n hx hb dX9_test__131 rfl (lv_at hl 3 rfl) ?_
              refine lv_sipush (v := 1000) hx hb dX9_test__132 (by decide) ?_
              have hFc := free_all hD hS hA
              refine va_calli (va_runV (As := [.int 1000]) (rest := []) ⟨hx, hb, hml, hown, hts⟩ (m_number l D h0 ad cs (upd (upd (upd iv 21 (nI 0)) 22 p22_45) 25 (nI e_120)) fv gv 0 e_120 n26 1000 H.size rfl rfl h26 (by omega) (by omega) (by omega) (by omega)) (cwV 1 hts gX9_test__X9_number rfl rfl rfl (by decide +kernel) ⟨Nat.le_of_ble_eq_true rfl, Nat.le_of_ble_eq_true rfl⟩) ⟨fun a U g mk q => by obtain ⟨q0, q1, qP, qK, qD⟩ := q; exact ⟨q0, q1, qP, va_K.moved (u := U) (U := U.calling g mk a) (Vm.Alike.refl U.vm) qK, qD⟩, va_recv hK hP (ci := 9) (q0 := 0) rfl rfl, fun U hU hW => ⟨rfl, by rw [hU], by rw [hU]; exact hP, va_K.moved hW.alike hK, hD.weaken (fun _ _ _ _ => trivial)⟩⟩ rfl rfl hl.1 rfl (lv_room (Nat.le_of_ble_eq_true rfl)) dX9_test__135 ⟨Nat.le_of_ble_eq_true rfl, Nat.le_of_ble_eq_true rfl⟩) hS (fun q _ h => hFc q h) hFc (fun r_122 u t H1 locs ht hvm w_123 hB hz1 hk1 hS => ?_)
              subst w_123
              obtain ⟨k21_124, p22_125, k25_126, q_127, q_128, q_129, q_130, hP1, hK1, hD1⟩ := hB
              rw [ht] at hP1
              have hK := va_K.moved hvm.symm hK1
              generalize H1 = H at hP1 hS ⊢
              have hP : va_P D vwCl (mw h0 ad cs (upd (upd (upd iv 21 (nI k21_124)) 22 p22_125) 25 (nI k25_126)) fv gv) H := hP1
              have hD : va_D A (mw h0 ad cs (upd (upd (upd iv 21 (nI k21_124)) 22 p22_125) 25 (nI k25_126)) fv gv) := hD1.weaken (fun _ _ _ h => hFc _ h)
              rcases q_130 with hp_131 | ⟨rfl, hg_133, v_134, hv_135, rfl⟩
              · refine lv_istore (lv' := [(4, .int r_122), (3, .int (nI c_65)), (2, .int (nI (30 + v_54))), (1, .int (nI c_8)), (0, .ref h0)]) hx hb dX9_test__138 hl (by decide) rfl (fun ls hl => ?_)
                refine lv_aload_n hx hb dX9_test__140 rfl (lv_at hl 4 rfl) ?_
                refine va_get (D := D) (ci := 9) (v := .int (nI k21_124)) (C := RX9) (T := TX9) (N := 44) hx hb hts hin9 hown hK hP 0 rfl rfl 21 (by decide) (hts (.fieldLink RX9 74 "HoneyHouseModel" "faultKind" "I") (List.mem_of_getElem? (i := 2) rfl)) (fun _ h9 => h9) rfl dX9_test__141 ?_
                refine lv_if_le (tgt := 148) hx hb dX9_test__144 (by decide) (fun c_136 => absurd c_136 (nI_nle (n := k21_124) (by omega) (by omega))) (fun c_136 => ?_)
                have hP : va_P D vwCl (mw h0 ad cs (upd (upd (upd (upd iv 21 (nI k21_124)) 22 p22_125) 25 (nI k25_126)) 30 (iv 30)) (uF fv 19 (fv 19)) gv) H := hP
                have hD : va_D A (mw h0 ad cs (upd (upd (upd (upd iv 21 (nI k21_124)) 22 p22_125) 25 (nI k25_126)) 30 (iv 30)) (uF fv 19 (fv 19)) gv) := hD
                have hP := hP
                rw [h30] at hP hD
                exact W.vret hx hb hr (fun t ht hW => ⟨⟨(), rfl, trivial, k21_124, p22_125, k25_126, n30, fv 19, by omega, by omega, by omega, Or.inl ⟨by omega, by omega, rfl⟩, by rw [ht]; exact hP, va_K.moved hW.alike hK, hD⟩, hS.F ht⟩) hS.2.2 dX9_test__147
              refine lv_istore (lv' := [(4, .int (nI v_134)), (3, .int (nI c_65)), (2, .int (nI (30 + v_54))), (1, .int (nI c_8)), (0, .ref h0)]) hx hb dX9_test__138 hl (by decide) rfl (fun ls hl => ?_)
              refine lv_aload_n hx hb dX9_test__140 rfl (lv_at hl 4 rfl) ?_
              refine va_get (D := D) (ci := 9) (v := .int (nI 0)) (C := RX9) (T := TX9) (N := 44) hx hb hts hin9 hown hK hP 0 rfl rfl 21 (by decide) (hts (.fieldLink RX9 74 "HoneyHouseModel" "faultKind" "I") (List.mem_of_getElem? (i := 2) rfl)) (fun _ h9 => h9) rfl dX9_test__141 ?_
              refine lv_if_le (tgt := 148) hx hb dX9_test__144 (by decide) (fun c_137 => ?_) (fun c_137 => absurd (by decide) c_137)
              refine lv_aload_n hx hb dX9_test__148 rfl (lv_at hl 4 rfl) ?_
              refine lv_bipush (v := 13) hx hb dX9_test__149 (by decide) ?_
              have hFc := free_all hD hS hA
              refine va_callv (va_runV (As := [.int 13]) (rest := []) ⟨hx, hb, hml, hown, hts⟩ (m_add l D h0 ad cs (upd (upd (upd iv 21 (nI 0)) 22 p22_125) 25 (nI k25_126)) fv gv n14 n30 13 H.size h14 h30 (by omega) (by omega)) (cwV 1 hts gX9_test__X9_add rfl rfl rfl (by decide +kernel) ⟨Nat.le_of_ble_eq_true rfl, Nat.le_of_ble_eq_true rfl⟩) ⟨fun a U g mk q => by obtain ⟨q0, q1, qP, qK, qD⟩ := q; exact ⟨q0, q1, qP, va_K.moved (u := U) (U := U.calling g mk a) (Vm.Alike.refl U.vm) qK, qD⟩, va_recv hK hP (ci := 9) (q0 := 0) rfl rfl, fun U hU hW => ⟨rfl, by rw [hU], by rw [hU]; exact hP, va_K.moved hW.alike hK, hD.weaken (fun _ _ _ _ => trivial)⟩⟩ rfl rfl hl.1 rfl (lv_room (Nat.le_of_ble_eq_true rfl)) dX9_test__151 ⟨Nat.le_of_ble_eq_true rfl, Nat.le_of_ble_eq_true rfl⟩) hS (fun q _ h => hFc q h) hFc (fun u t H1 locs ht hvm w_139 hB hz1 hk1 hS => ?_)
              obtain ⟨f19_140, q_141, hP1, hK1, hD1⟩ := hB
              replace q_141 : f19_140 = upd ((fv 19)) (200 * n14 + n30) 13 := q_141
              rw [ht] at hP1
              have hK := va_K.moved hvm.symm hK1
              generalize H1 = H at hP1 hS ⊢
              have hP : va_P D vwCl (mw h0 ad cs (upd (upd (upd (upd iv 21 (nI 0)) 22 p22_125) 25 (nI k25_126)) 30 (nI (n30 + 1))) (uF fv 19 f19_140) gv) H := hP1
              have hD : va_D A (mw h0 ad cs (upd (upd (upd (upd iv 21 (nI 0)) 22 p22_125) 25 (nI k25_126)) 30 (nI (n30 + 1))) (uF fv 19 f19_140) gv) := hD1.weaken (fun _ _ _ h => hFc _ h)
              refine lv_aload_n hx hb dX9_test__154 rfl (lv_at hl 4 rfl) ?_
              refine lv_iload_n hx hb dX9_test__155 rfl (lv_at hl 2 rfl) ?_
              have hFc := free_all hD hS hA
              refine va_callv (va_runV (As := [.int (nI (30 + v_54))]) (rest := []) ⟨hx, hb, hml, hown, hts⟩ (m_add l D h0 ad cs (upd (upd (upd (upd iv 21 (nI 0)) 22 p22_125) 25 (nI k25_126)) 30 (nI (n30 + 1))) (uF fv 19 f19_140) gv n14 (n30 + 1) (nI (30 + v_54)) H.size h14 rfl (by omega) (by omega)) (cwV 1 hts gX9_test__X9_add rfl rfl rfl (by decide +kernel) ⟨Nat.le_of_ble_eq_true rfl, Nat.le_of_ble_eq_true rfl⟩) ⟨fun a U g mk q => by obtain ⟨q0, q1, qP, qK, qD⟩ := q; exact ⟨q0, q1, qP, va_K.moved (u := U) (U := U.calling g mk a) (Vm.Alike.refl U.vm) qK, qD⟩, va_recv hK hP (ci := 9) (q0 := 0) rfl rfl, fun U hU hW => ⟨rfl, by rw [hU], by rw [hU]; exact hP, va_K.moved hW.alike hK, hD.weaken (fun _ _ _ _ => trivial)⟩⟩ rfl rfl hl.1 rfl (lv_room (Nat.le_of_ble_eq_true rfl)) dX9_test__156 ⟨Nat.le_of_ble_eq_true rfl, Nat.le_of_ble_eq_true rfl⟩) hS (fun q _ h => hFc q h) hFc (fun u t H1 locs ht hvm w_143 hB hz1 hk1 hS => ?_)
              obtain ⟨f19_144, q_145, hP1, hK1, hD1⟩ := hB
              replace q_145 : f19_144 = upd ((f19_140)) (200 * n14 + (n30 + 1)) (nI (30 + v_54)) := q_145
              rw [ht] at hP1
              have hK := va_K.moved hvm.symm hK1
              generalize H1 = H at hP1 hS ⊢
              have hP : va_P D vwCl (mw h0 ad cs (upd (upd (upd (upd iv 21 (nI 0)) 22 p22_125) 25 (nI k25_126)) 30 (nI ((n30 + 1) + 1))) (uF fv 19 f19_144) gv) H := hP1
              have hD : va_D A (mw h0 ad cs (upd (upd (upd (upd iv 21 (nI 0)) 22 p22_125) 25 (nI k25_126)) 30 (nI ((n30 + 1) + 1))) (uF fv 19 f19_144) gv) := hD1.weaken (fun _ _ _ h => hFc _ h)
              refine lv_aload_n hx hb dX9_test__159 rfl (lv_at hl 4 rfl) ?_
              refine lv_iload_n hx hb dX9_test__160 rfl (lv_at hl 1 rfl) ?_
              have hFc := free_all hD hS hA
              refine va_callv (va_runV (As := [.int (nI c_65)]) (rest := []) ⟨hx, hb, hml, hown, hts⟩ (m_add l D h0 ad cs (upd (upd (upd (upd iv 21 (nI 0)) 22 p22_125) 25 (nI k25_126)) 30 (nI ((n30 + 1) + 1))) (uF fv 19 f19_144) gv n14 ((n30 + 1) + 1) (nI c_65) H.size h14 rfl (by omega) (by omega)) (cwV 1 hts gX9_test__X9_add rfl rfl rfl (by decide +kernel) ⟨Nat.le_of_ble_eq_true rfl, Nat.le_of_ble_eq_true rfl⟩) ⟨fun a U g mk q => by obtain ⟨q0, q1, qP, qK, qD⟩ := q; exact ⟨q0, q1, qP, va_K.moved (u := U) (U := U.calling g mk a) (Vm.Alike.refl U.vm) qK, qD⟩, va_recv hK hP (ci := 9) (q0 := 0) rfl rfl, fun U hU hW => ⟨rfl, by rw [hU], by rw [hU]; exact hP, va_K.moved hW.alike hK, hD.weaken (fun _ _ _ _ => trivial)⟩⟩ rfl rfl hl.1 rfl (lv_room (Nat.le_of_ble_eq_true rfl)) dX9_test__161 ⟨Nat.le_of_ble_eq_true rfl, Nat.le_of_ble_eq_true rfl⟩) hS (fun q _ h => hFc q h) hFc (fun u t H1 locs ht hvm w_147 hB hz1 hk1 hS => ?_)
              obtain ⟨f19_148, q_149, hP1, hK1, hD1⟩ := hB
              replace q_149 : f19_148 = upd ((f19_144)) (200 * n14 + ((n30 + 1) + 1)) (nI c_65) := q_149
              rw [ht] at hP1
              have hK := va_K.moved hvm.symm hK1
              generalize H1 = H at hP1 hS ⊢
              have hP : va_P D vwCl (mw h0 ad cs (upd (upd (upd (upd iv 21 (nI 0)) 22 p22_125) 25 (nI k25_126)) 30 (nI (((n30 + 1) + 1) + 1))) (uF fv 19 f19_148) gv) H := hP1
              have hD : va_D A (mw h0 ad cs (upd (upd (upd (upd iv 21 (nI 0)) 22 p22_125) 25 (nI k25_126)) 30 (nI (((n30 + 1) + 1) + 1))) (uF fv 19 f19_148) gv) := hD1.weaken (fun _ _ _ h => hFc _ h)
              refine lv_aload_n hx hb dX9_test__164 rfl (lv_at hl 4 rfl) ?_
              refine lv_iload hx hb dX9_test__165 (lv_at hl 0 rfl) ?_
              have hFc := free_all hD hS hA
              refine va_callv (va_runV (As := [.int (nI v_134)]) (rest := []) ⟨hx, hb, hml, hown, hts⟩ (m_add l D h0 ad cs (upd (upd (upd (upd iv 21 (nI 0)) 22 p22_125) 25 (nI k25_126)) 30 (nI (((n30 + 1) + 1) + 1))) (uF fv 19 f19_148) gv n14 (((n30 + 1) + 1) + 1) (nI v_134) H.size h14 rfl (by omega) (by omega)) (cwV 1 hts gX9_test__X9_add rfl rfl rfl (by decide +kernel) ⟨Nat.le_of_ble_eq_true rfl, Nat.le_of_ble_eq_true rfl⟩) ⟨fun a U g mk q => by obtain ⟨q0, q1, qP, qK, qD⟩ := q; exact ⟨q0, q1, qP, va_K.moved (u := U) (U := U.calling g mk a) (Vm.Alike.refl U.vm) qK, qD⟩, va_recv hK hP (ci := 9) (q0 := 0) rfl rfl, fun U hU hW => ⟨rfl, by rw [hU], by rw [hU]; exact hP, va_K.moved hW.alike hK, hD.weaken (fun _ _ _ _ => trivial)⟩⟩ rfl rfl hl.1 rfl (lv_room (Nat.le_of_ble_eq_true rfl)) dX9_test__167 ⟨Nat.le_of_ble_eq_true rfl, Nat.le_of_ble_eq_true rfl⟩) hS (fun q _ h => hFc q h) hFc (fun u t H1 locs ht hvm w_151 hB hz1 hk1 hS => ?_)
              obtain ⟨f19_152, q_153, hP1, hK1, hD1⟩ := hB
              replace q_153 : f19_152 = upd ((f19_148)) (200 * n14 + (((n30 + 1) + 1) + 1)) (nI v_134) := q_153
              rw [ht] at hP1
              have hK := va_K.moved hvm.symm hK1
              generalize H1 = H at hP1 hS ⊢
              have hP : va_P D vwCl (mw h0 ad cs (upd (upd (upd (upd iv 21 (nI 0)) 22 p22_125) 25 (nI k25_126)) 30 (nI ((((n30 + 1) + 1) + 1) + 1))) (uF fv 19 f19_152) gv) H := hP1
              have hD : va_D A (mw h0 ad cs (upd (upd (upd (upd iv 21 (nI 0)) 22 p22_125) 25 (nI k25_126)) 30 (nI ((((n30 + 1) + 1) + 1) + 1))) (uF fv 19 f19_152) gv) := hD1.weaken (fun _ _ _ h => hFc _ h)
              have hP : va_P D vwCl (mw h0 ad cs (upd (upd (upd (upd iv 21 (nI 0)) 22 p22_125) 25 (nI k25_126)) 30 (nI ((((n30 + 1) + 1) + 1) + 1))) (uF fv 19 f19_152) gv) H := hP
              have hD : va_D A (mw h0 ad cs (upd (upd (upd (upd iv 21 (nI 0)) 22 p22_125) 25 (nI k25_126)) 30 (nI ((((n30 + 1) + 1) + 1) + 1))) (uF fv 19 f19_152) gv) := hD
              exact W.vret hx hb hr (fun t ht hW => ⟨⟨(), rfl, trivial, 0, p22_125, k25_126, (((n30 + 1) + 1) + 1) + 1, f19_152, by omega, by omega, by omega, Or.inr ⟨by omega, by omega, by omega, fun i h9 => by rw [q_153, up_ne (by omega), q_149, up_ne (by omega), q_145, up_ne (by omega), q_141, up_ne (by omega)], by rw [q_153, up_ne (by omega), q_149, up_ne (by omega), q_145, up_ne (by omega), q_141, up_eq], by rw [q_153, up_ne (by omega), q_149, up_ne (by omega), q_145, up_eq]; exact ⟨30 + v_54, by omega, rfl⟩⟩, by rw [ht]; exact hP, va_K.moved hW.alike hK, hD⟩, hS.F ht⟩) hS.2.2 dX9_test__170
            have d_154 := n_ne (a := c_65) (b := 10) (by omega) (by omega) c_116
            refine lv_aload_n hx hb dX9_test__113 rfl (lv_at hl 3 rfl) ?_
            refine lv_iconst (v := 1) hx hb dX9_test__114 (by decide) ?_
            refine lv_aload_n hx hb dX9_test__115 rfl (lv_at hl 3 rfl) ?_
            refine va_get (D := D) (ci := 9) (v := .int (nI k25_60)) (C := RX9) (T := TX9) (N := 44) hx hb hts hin9 hown hK hP 0 rfl rfl 25 (by decide) (hts (.fieldLink RX9 87 "HoneyHouseModel" "at" "I") (List.mem_of_getElem? (i := 1) rfl)) (fun _ h9 => h9) rfl dX9_test__116 ?_
            have hFc := free_all hD hS hA
            refine va_callv (va_runV (As := [.int 1, .int (nI k25_60)]) (rest := []) ⟨hx, hb, hml, hown, hts⟩ (m_blame l D h0 ad cs (upd (upd (upd iv 21 (nI 0)) 22 p22_45) 25 (nI k25_60)) fv gv 0 1 (nI k25_60) H.size rfl (by omega) (by omega)) (cwV 2 hts gX9_test__X9_blame rfl rfl rfl (by decide +kernel) ⟨Nat.le_of_ble_eq_true rfl, Nat.le_of_ble_eq_true rfl⟩) ⟨fun a U g mk q => by obtain ⟨q0, q1, qP, qK, qD⟩ := q; exact ⟨q0, q1, qP, va_K.moved (u := U) (U := U.calling g mk a) (Vm.Alike.refl U.vm) qK, qD⟩, va_recv hK hP (ci := 9) (q0 := 0) rfl rfl, fun U hU hW => ⟨rfl, by rw [hU], by rw [hU]; exact hP, va_K.moved hW.alike hK, hD.weaken (fun _ _ _ _ => trivial)⟩⟩ rfl rfl hl.1 rfl (lv_room (Nat.le_of_ble_eq_true rfl)) dX9_test__119 ⟨Nat.le_of_ble_eq_true rfl, Nat.le_of_ble_eq_true rfl⟩) hS (fun q _ h => hFc q h) hFc (fun u t H1 locs ht hvm w_156 hB hz1 hk1 hS => ?_)
            obtain ⟨k21_157, p22_158, q_159, q_160, hP1, hK1, hD1⟩ := hB
            rw [ht] at hP1
            have hK := va_K.moved hvm.symm hK1
            generalize H1 = H at hP1 hS ⊢
            have hP : va_P D vwCl (mw h0 ad cs (upd (upd (upd iv 21 (nI k21_157)) 22 p22_158) 25 (nI k25_60)) fv gv) H := hP1
            have hD : va_D A (mw h0 ad cs (upd (upd (upd iv 21 (nI k21_157)) 22 p22_158) 25 (nI k25_60)) fv gv) := hD1.weaken (fun _ _ _ h => hFc _ h)
            have hP : va_P D vwCl (mw h0 ad cs (upd (upd (upd (upd iv 21 (nI k21_157)) 22 p22_158) 25 (nI k25_60)) 30 (iv 30)) (uF fv 19 (fv 19)) gv) H := hP
            have hD : va_D A (mw h0 ad cs (upd (upd (upd (upd iv 21 (nI k21_157)) 22 p22_158) 25 (nI k25_60)) 30 (iv 30)) (uF fv 19 (fv 19)) gv) := hD
            have hP := hP
            rw [h30] at hP hD
            exact W.vret hx hb hr (fun t ht hW => ⟨⟨(), rfl, trivial, k21_157, p22_158, k25_60, n30, fv 19, by omega, by omega, by omega, Or.inl ⟨by omega, by omega, rfl⟩, by rw [ht]; exact hP, va_K.moved hW.alike hK, hD⟩, hS.F ht⟩) hS.2.2 dX9_test__122
          have d_161 := n_eq (a := c_8) (b := 7) (by omega) (by omega) c_40
          refine lv_bipush (v := 10) hx hb dX9_test__68 (by decide) ?_
          refine lv_aload_n hx hb dX9_test__70 rfl (lv_at hl 1 rfl) ?_
          refine lv_iconst (v := 4) hx hb dX9_test__71 (by decide) ?_
          have hFc := free_all hD hS hA
          refine va_calli (va_runV (As := [.int 4]) (rest := [.int 10]) ⟨hx, hb, hml, hown, hts⟩ (m_number l D h0 ad cs (upd iv 25 (nI e_32)) fv gv n21 e_32 n26 4 H.size h21 rfl h26 (by omega) (by omega) (by omega) (by omega)) (cwV 1 hts gX9_test__X9_number rfl rfl rfl (by decide +kernel) ⟨Nat.le_of_ble_eq_true rfl, Nat.le_of_ble_eq_true rfl⟩) ⟨fun a U g mk q => by obtain ⟨q0, q1, qP, qK, qD⟩ := q; exact ⟨q0, q1, qP, va_K.moved (u := U) (U := U.calling g mk a) (Vm.Alike.refl U.vm) qK, qD⟩, va_recv hK hP (ci := 9) (q0 := 0) rfl rfl, fun U hU hW => ⟨rfl, by rw [hU], by rw [hU]; exact hP, va_K.moved hW.alike hK, hD.weaken (fun _ _ _ _ => trivial)⟩⟩ rfl rfl hl.1 rfl (lv_room (Nat.le_of_ble_eq_true rfl)) dX9_test__72 ⟨Nat.le_of_ble_eq_true rfl, Nat.le_of_ble_eq_true rfl⟩) hS (fun q _ h => hFc q h) hFc (fun r_162 u t H1 locs ht hvm w_163 hB hz1 hk1 hS => ?_)
          subst w_163
          obtain ⟨k21_164, p22_165, k25_166, q_167, q_168, q_169, q_170, hP1, hK1, hD1⟩ := hB
          rw [ht] at hP1
          have hK := va_K.moved hvm.symm hK1
          generalize H1 = H at hP1 hS ⊢
          have hP : va_P D vwCl (mw h0 ad cs (upd (upd (upd iv 21 (nI k21_164)) 22 p22_165) 25 (nI k25_166)) fv gv) H := hP1
          have hD : va_D A (mw h0 ad cs (upd (upd (upd iv 21 (nI k21_164)) 22 p22_165) 25 (nI k25_166)) fv gv) := hD1.weaken (fun _ _ _ h => hFc _ h)
          rcases q_170 with hp_171 | ⟨rfl, hg_173, v_174, hv_175, rfl⟩
          · refine lv_iadd hx hb dX9_test__75 ?_
            refine lv_goto (tgt := 87) hx hb dX9_test__76 (by decide) ?_
            refine lv_istore_n (lv' := [(2, .int (10 + r_162)), (1, .int (nI c_8)), (0, .ref h0)]) hx hb dX9_test__87 rfl hl (by decide) rfl (fun ls hl => ?_)
            refine lv_aload_n hx hb dX9_test__88 rfl (lv_at hl 2 rfl) ?_
            refine va_get (D := D) (ci := 9) (v := .int (nI k21_164)) (C := RX9) (T := TX9) (N := 44) hx hb hts hin9 hown hK hP 0 rfl rfl 21 (by decide) (hts (.fieldLink RX9 74 "HoneyHouseModel" "faultKind" "I") (List.mem_of_getElem? (i := 2) rfl)) (fun _ h9 => h9) rfl dX9_test__89 ?_
            refine lv_if_le (tgt := 96) hx hb dX9_test__92 (by decide) (fun c_176 => absurd c_176 (nI_nle (n := k21_164) (by omega) (by omega))) (fun c_176 => ?_)
            have hP : va_P D vwCl (mw h0 ad cs (upd (upd (upd (upd iv 21 (nI k21_164)) 22 p22_165) 25 (nI k25_166)) 30 (iv 30)) (uF fv 19 (fv 19)) gv) H := hP
            have hD : va_D A (mw h0 ad cs (upd (upd (upd (upd iv 21 (nI k21_164)) 22 p22_165) 25 (nI k25_166)) 30 (iv 30)) (uF fv 19 (fv 19)) gv) := hD
            have hP := hP
            rw [h30] at hP hD
            exact W.vret hx hb hr (fun t ht hW => ⟨⟨(), rfl, trivial, k21_164, p22_165, k25_166, n30, fv 19, by omega, by omega, by omega, Or.inl ⟨by omega, by omega, rfl⟩, by rw [ht]; exact hP, va_K.moved hW.alike hK, hD⟩, hS.F ht⟩) hS.2.2 dX9_test__95
          refine lv_iadd hx hb dX9_test__75 ?_
          refine tp_i (y := nI (10 + v_174)) (nI_add 10 v_174) ?_
          refine lv_goto (tgt := 87) hx hb dX9_test__76 (by decide) ?_
          refine lv_istore_n (lv' := [(2, .int (nI (10 + v_174))), (1, .int (nI c_8)), (0, .ref h0)]) hx hb dX9_test__87 rfl hl (by decide) rfl (fun ls hl => ?_)
          refine lv_aload_n hx hb dX9_test__88 rfl (lv_at hl 2 rfl) ?_
          refine va_get (D := D) (ci := 9) (v := .int (nI 0)) (C := RX9) (T := TX9) (N := 44) hx hb hts hin9 hown hK hP 0 rfl rfl 21 (by decide) (hts (.fieldLink RX9 74 "HoneyHouseModel" "faultKind" "I") (List.mem_of_getElem? (i := 2) rfl)) (fun _ h9 => h9) rfl dX9_test__89 ?_
          refine lv_if_le (tgt := 96) hx hb dX9_test__92 (by decide) (fun c_177 => ?_) (fun c_177 => absurd (by decide) c_177)
          refine lv_aload_n hx hb dX9_test__96 rfl (lv_at hl 2 rfl) ?_
          have hFc := free_all hD hS hA
          refine va_calli (va_runV (As := []) (rest := []) ⟨hx, hb, hml, hown, hts⟩ (m_peek l D h0 ad cs (upd (upd (upd iv 21 (nI 0)) 22 p22_165) 25 (nI k25_166)) fv gv k25_166 n26  H.size rfl h26 (by omega) (by omega)) (cwV 0 hts gX9_test__X9_peek rfl rfl rfl (by decide +kernel) ⟨Nat.le_of_ble_eq_true rfl, Nat.le_of_ble_eq_true rfl⟩) ⟨fun a U g mk q => by obtain ⟨q0, q1, qP, qK, qD⟩ := q; exact ⟨q0, q1, qP, va_K.moved (u := U) (U := U.calling g mk a) (Vm.Alike.refl U.vm) qK, qD⟩, va_recv hK hP (ci := 9) (q0 := 0) rfl rfl, fun U hU hW => ⟨rfl, by rw [hU], by rw [hU]; exact hP, va_K.moved hW.alike hK, hD.weaken (fun _ _ _ _ => trivial)⟩⟩ rfl rfl hl.1 rfl (lv_room (Nat.le_of_ble_eq_true rfl)) dX9_test__97 ⟨Nat.le_of_ble_eq_true rfl, Nat.le_of_ble_eq_true rfl⟩) hS (fun q _ h => hFc q h) hFc (fun r_178 u t H1 locs ht hvm w_179 hB hz1 hk1 hS => ?_)
          subst w_179
          obtain ⟨k25_180, q_181, q_182, q_183, q_184, hP1, hK1, hD1⟩ := hB
          replace q_183 : (k25_166 = n26 ∨ ¬ blk ((fv 0) k25_166)) → k25_180 = k25_166 := q_183
          replace q_184 : r_178 = (-1) ∨ ∃ c e : Nat, r_178 = nI c ∧ isE ((fv 0)) n26 k25_180 e ∧ ((c = 0 ∧ e = k25_180 + 4) ∨ (c = 1 ∧ e = k25_180 + 2) ∨ (c = 2 ∧ e = k25_180 + 3) ∨ (c = 3 ∧ e = k25_180 + 3) ∨ (c = 4 ∧ e = k25_180 + 5) ∨ (c = 5 ∧ e = k25_180 + 6) ∨ (c = 6 ∧ e = k25_180 + 4) ∨ (c = 7 ∧ e = k25_180 + 6) ∨ (c = 8 ∧ e = k25_180 + 4) ∨ (c = 9 ∧ e = k25_180 + 3) ∨ (c = 10 ∧ e = k25_180 + 3) ∨ c = 11) := q_184
          rw [ht] at hP1
          have hK := va_K.moved hvm.symm hK1
          generalize H1 = H at hP1 hS ⊢
          have hP : va_P D vwCl (mw h0 ad cs (upd (upd (upd iv 21 (nI 0)) 22 p22_165) 25 (nI k25_180)) fv gv) H := hP1
          have hD : va_D A (mw h0 ad cs (upd (upd (upd iv 21 (nI 0)) 22 p22_165) 25 (nI k25_180)) fv gv) := hD1.weaken (fun _ _ _ h => hFc _ h)
          rcases q_184 with rfl | ⟨c_185, e_186, rfl, he_187, hc_188⟩
          · refine lv_istore_n (lv' := [(3, .int (-1)), (2, .int (nI (10 + v_174))), (1, .int (nI c_8)), (0, .ref h0)]) hx hb dX9_test__100 rfl hl (by decide) rfl (fun ls hl => ?_)
            refine lv_iload_n hx hb dX9_test__101 rfl (lv_at hl 0 rfl) ?_
            refine lv_bipush (v := 9) hx hb dX9_test__102 (by decide) ?_
            refine lv_icmp_eq (tgt := 123) hx hb dX9_test__104 (by decide) (fun c_189 => absurd c_189 (by decide)) (fun c_189 => ?_)
            refine lv_iload_n hx hb dX9_test__107 rfl (lv_at hl 0 rfl) ?_
            refine lv_bipush (v := 10) hx hb dX9_test__108 (by decide) ?_
            refine lv_icmp_eq (tgt := 123) hx hb dX9_test__110 (by decide) (fun c_190 => absurd c_190 (by decide)) (fun c_190 => ?_)
            refine lv_aload_n hx hb dX9_test__113 rfl (lv_at hl 3 rfl) ?_
            refine lv_iconst (v := 1) hx hb dX9_test__114 (by decide) ?_
            refine lv_aload_n hx hb dX9_test__115 rfl (lv_at hl 3 rfl) ?_
            refine va_get (D := D) (ci := 9) (v := .int (nI k25_180)) (C := RX9) (T := TX9) (N := 44) hx hb hts hin9 hown hK hP 0 rfl rfl 25 (by decide) (hts (.fieldLink RX9 87 "HoneyHouseModel" "at" "I") (List.mem_of_getElem? (i := 1) rfl)) (fun _ h9 => h9) rfl dX9_test__116 ?_
            have hFc := free_all hD hS hA
            refine va_callv (va_runV (As := [.int 1, .int (nI k25_180)]) (rest := []) ⟨hx, hb, hml, hown, hts⟩ (m_blame l D h0 ad cs (upd (upd (upd iv 21 (nI 0)) 22 p22_165) 25 (nI k25_180)) fv gv 0 1 (nI k25_180) H.size rfl (by omega) (by omega)) (cwV 2 hts gX9_test__X9_blame rfl rfl rfl (by decide +kernel) ⟨Nat.le_of_ble_eq_true rfl, Nat.le_of_ble_eq_true rfl⟩) ⟨fun a U g mk q => by obtain ⟨q0, q1, qP, qK, qD⟩ := q; exact ⟨q0, q1, qP, va_K.moved (u := U) (U := U.calling g mk a) (Vm.Alike.refl U.vm) qK, qD⟩, va_recv hK hP (ci := 9) (q0 := 0) rfl rfl, fun U hU hW => ⟨rfl, by rw [hU], by rw [hU]; exact hP, va_K.moved hW.alike hK, hD.weaken (fun _ _ _ _ => trivial)⟩⟩ rfl rfl hl.1 rfl (lv_room (Nat.le_of_ble_eq_true rfl)) dX9_test__119 ⟨Nat.le_of_ble_eq_true rfl, Nat.le_of_ble_eq_true rfl⟩) hS (fun q _ h => hFc q h) hFc (fun u t H1 locs ht hvm w_192 hB hz1 hk1 hS => ?_)
            obtain ⟨k21_193, p22_194, q_195, q_196, hP1, hK1, hD1⟩ := hB
            rw [ht] at hP1
            have hK := va_K.moved hvm.symm hK1
            generalize H1 = H at hP1 hS ⊢
            have hP : va_P D vwCl (mw h0 ad cs (upd (upd (upd iv 21 (nI k21_193)) 22 p22_194) 25 (nI k25_180)) fv gv) H := hP1
            have hD : va_D A (mw h0 ad cs (upd (upd (upd iv 21 (nI k21_193)) 22 p22_194) 25 (nI k25_180)) fv gv) := hD1.weaken (fun _ _ _ h => hFc _ h)
            have hP : va_P D vwCl (mw h0 ad cs (upd (upd (upd (upd iv 21 (nI k21_193)) 22 p22_194) 25 (nI k25_180)) 30 (iv 30)) (uF fv 19 (fv 19)) gv) H := hP
            have hD : va_D A (mw h0 ad cs (upd (upd (upd (upd iv 21 (nI k21_193)) 22 p22_194) 25 (nI k25_180)) 30 (iv 30)) (uF fv 19 (fv 19)) gv) := hD
            have hP := hP
            rw [h30] at hP hD
            exact W.vret hx hb hr (fun t ht hW => ⟨⟨(), rfl, trivial, k21_193, p22_194, k25_180, n30, fv 19, by omega, by omega, by omega, Or.inl ⟨by omega, by omega, rfl⟩, by rw [ht]; exact hP, va_K.moved hW.alike hK, hD⟩, hS.F ht⟩) hS.2.2 dX9_test__122
          have he_187b : k25_180 ≤ e_186 ∧ e_186 ≤ n26 := ⟨he_187.1, he_187.2.1⟩
          refine lv_istore_n (lv' := [(3, .int (nI c_185)), (2, .int (nI (10 + v_174))), (1, .int (nI c_8)), (0, .ref h0)]) hx hb dX9_test__100 rfl hl (by decide) rfl (fun ls hl => ?_)
          refine lv_iload_n hx hb dX9_test__101 rfl (lv_at hl 0 rfl) ?_
          refine lv_bipush (v := 9) hx hb dX9_test__102 (by decide) ?_
          refine lv_icmp_eq (tgt := 123) hx hb dX9_test__104 (by decide) (fun c_197 => ?_) (fun c_197 => ?_)
          · have d_198 := n_eq (a := c_185) (b := 9) (by omega) (by omega) c_197
            refine lv_aload_n hx hb dX9_test__123 rfl (lv_at hl 3 rfl) ?_
            refine lv_aload_n hx hb dX9_test__124 rfl (lv_at hl 3 rfl) ?_
            refine vp_callSi (W.runV (As := []) (rest := [.ref h0]) ⟨hx, hb, hml, hown, hts⟩ (m_wordEnd l D h0 ad cs (upd (upd (upd iv 21 (nI 0)) 22 p22_165) 25 (nI k25_180)) fv gv k25_180 n26  rfl h26 (by omega) (by omega)) (cwV 0 hts gX9_test__X9_wordEnd rfl rfl rfl (by decide +kernel) ⟨Nat.le_of_ble_eq_true rfl, Nat.le_of_ble_eq_true rfl⟩) ⟨fun a U g mk q => ⟨q.1, q.2.1, va_K.moved (u := U) (U := U.calling g mk a) (Vm.Alike.refl U.vm) q.2.2⟩, va_recv hK hP (ci := 9) (q0 := 0) rfl rfl, fun U hU hW => ⟨rfl, by rw [hU]; exact hP, va_K.moved hW.alike hK⟩⟩ rfl rfl hl.1 rfl (lv_room (Nat.le_of_ble_eq_true rfl)) dX9_test__125 ⟨Nat.le_of_ble_eq_true rfl, Nat.le_of_ble_eq_true rfl⟩) (fun r_199 k_200 => ?_)
            obtain ⟨e_201, rfl, he_202⟩ := k_200
            have hq_e_201 : e_201 = e_186 := he_202.uq he_187
            refine va_put (D := D) (ci := 9) (v := .int (nI e_201)) (ty := .int) (C := RX9) (T := TX9) (N := 44) hx hb hts hin9 tyX9 tyX9_ok nmX9 hown hK hP hD hS 0 rfl rfl 25 (by decide) (hts (.fieldLink RX9 87 "HoneyHouseModel" "at" "I") (List.mem_of_getElem? (i := 1) rfl)) (fun _ h9 => h9) rfl (tyX9_ok 25 (by decide)) rfl rfl (Nat.le_of_ble_eq_true rfl) dX9_test__128 (fun H locs hP hD hS => ?_)
            have hP : va_P D vwCl (mw h0 ad cs (upd (upd (upd iv 21 (nI 0)) 22 p22_165) 25 (nI e_201)) fv gv) H := hP
            have hD : va_D A (mw h0 ad cs (upd (upd (upd iv 21 (nI 0)) 22 p22_165) 25 (nI e_201)) fv gv) := hD
            refine lv_aload_n hx hb dX9_test__131 rfl (lv_at hl 3 rfl) ?_
            refine lv_sipush (v := 1000) hx hb dX9_test__132 (by decide) ?_
            have hFc := free_all hD hS hA
            refine va_calli (va_runV (As := [.int 1000]) (rest := []) ⟨hx, hb, hml, hown, hts⟩ (m_number l D h0 ad cs (upd (upd (upd iv 21 (nI 0)) 22 p22_165) 25 (nI e_201)) fv gv 0 e_201 n26 1000 H.size rfl rfl h26 (by omega) (by omega) (by omega) (by omega)) (cwV 1 hts gX9_test__X9_number rfl rfl rfl (by decide +kernel) ⟨Nat.le_of_ble_eq_true rfl, Nat.le_of_ble_eq_true rfl⟩) ⟨fun a U g mk q => by obtain ⟨q0, q1, qP, qK, qD⟩ := q; exact ⟨q0, q1, qP, va_K.moved (u := U) (U := U.calling g mk a) (Vm.Alike.refl U.vm) qK, qD⟩, va_recv hK hP (ci := 9) (q0 := 0) rfl rfl, fun U hU hW => ⟨rfl, by rw [hU], by rw [hU]; exact hP, va_K.moved hW.alike hK, hD.weaken (fun _ _ _ _ => trivial)⟩⟩ rfl rfl hl.1 rfl (lv_room (Nat.le_of_ble_eq_true rfl)) dX9_test__135 ⟨Nat.le_of_ble_eq_true rfl, Nat.le_of_ble_eq_true rfl⟩) hS (fun q _ h => hFc q h) hFc (fun r_203 u t H1 locs ht hvm w_204 hB hz1 hk1 hS => ?_)
            subst w_204
            obtain ⟨k21_205, p22_206, k25_207, q_208, q_209, q_210, q_211, hP1, hK1, hD1⟩ := hB
            rw [ht] at hP1
            have hK := va_K.moved hvm.symm hK1
            generalize H1 = H at hP1 hS ⊢
            have hP : va_P D vwCl (mw h0 ad cs (upd (upd (upd iv 21 (nI k21_205)) 22 p22_206) 25 (nI k25_207)) fv gv) H := hP1
            have hD : va_D A (mw h0 ad cs (upd (upd (upd iv 21 (nI k21_205)) 22 p22_206) 25 (nI k25_207)) fv gv) := hD1.weaken (fun _ _ _ h => hFc _ h)
            rcases q_211 with hp_212 | ⟨rfl, hg_214, v_215, hv_216, rfl⟩
            · refine lv_istore (lv' := [(4, .int r_203), (3, .int (nI c_185)), (2, .int (nI (10 + v_174))), (1, .int (nI c_8)), (0, .ref h0)]) hx hb dX9_test__138 hl (by decide) rfl (fun ls hl => ?_)
              refine lv_aload_n hx hb dX9_test__140 rfl (lv_at hl 4 rfl) ?_
              refine va_get (D := D) (ci := 9) (v := .int (nI k21_205)) (C := RX9) (T := TX9) (N := 44) hx hb hts hin9 hown hK hP 0 rfl rfl 21 (by decide) (hts (.fieldLink RX9 74 "HoneyHouseModel" "faultKind" "I") (List.mem_of_getElem? (i := 2) rfl)) (fun _ h9 => h9) rfl dX9_test__141 ?_
              refine lv_if_le (tgt := 148) hx hb dX9_test__144 (by decide) (fun c_217 => absurd c_217 (nI_nle (n := k21_205) (by omega) (by omega))) (fun c_217 => ?_)
              have hP : va_P D vwCl (mw h0 ad cs (upd (upd (upd (upd iv 21 (nI k21_205)) 22 p22_206) 25 (nI k25_207)) 30 (iv 30)) (uF fv 19 (fv 19)) gv) H := hP
              have hD : va_D A (mw h0 ad cs (upd (upd (upd (upd iv 21 (nI k21_205)) 22 p22_206) 25 (nI k25_207)) 30 (iv 30)) (uF fv 19 (fv 19)) gv) := hD
              have hP := hP
              rw [h30] at hP hD
              exact W.vret hx hb hr (fun t ht hW => ⟨⟨(), rfl, trivial, k21_205, p22_206, k25_207, n30, fv 19, by omega, by omega, by omega, Or.inl ⟨by omega, by omega, rfl⟩, by rw [ht]; exact hP, va_K.moved hW.alike hK, hD⟩, hS.F ht⟩) hS.2.2 dX9_test__147
            refine lv_istore (lv' := [(4, .int (nI v_215)), (3, .int (nI c_185)), (2, .int (nI (10 + v_174))), (1, .int (nI c_8)), (0, .ref h0)]) hx hb dX9_test__138 hl (by decide) rfl (fun ls hl => ?_)
            refine lv_aload_n hx hb dX9_test__140 rfl (lv_at hl 4 rfl) ?_
            refine va_get (D := D) (ci := 9) (v := .int (nI 0)) (C := RX9) (T := TX9) (N := 44) hx hb hts hin9 hown hK hP 0 rfl rfl 21 (by decide) (hts (.fieldLink RX9 74 "HoneyHouseModel" "faultKind" "I") (List.mem_of_getElem? (i := 2) rfl)) (fun _ h9 => h9) rfl dX9_test__141 ?_
            refine lv_if_le (tgt := 148) hx hb dX9_test__144 (by decide) (fun c_218 => ?_) (fun c_218 => absurd (by decide) c_218)
            refine lv_aload_n hx hb dX9_test__148 rfl (lv_at hl 4 rfl) ?_
            refine lv_bipush (v := 13) hx hb dX9_test__149 (by decide) ?_
            have hFc := free_all hD hS hA
            refine va_callv (va_runV (As := [.int 13]) (rest := []) ⟨hx, hb, hml, hown, hts⟩ (m_add l D h0 ad cs (upd (upd (upd iv 21 (nI 0)) 22 p22_206) 25 (nI k25_207)) fv gv n14 n30 13 H.size h14 h30 (by omega) (by omega)) (cwV 1 hts gX9_test__X9_add rfl rfl rfl (by decide +kernel) ⟨Nat.le_of_ble_eq_true rfl, Nat.le_of_ble_eq_true rfl⟩) ⟨fun a U g mk q => by obtain ⟨q0, q1, qP, qK, qD⟩ := q; exact ⟨q0, q1, qP, va_K.moved (u := U) (U := U.calling g mk a) (Vm.Alike.refl U.vm) qK, qD⟩, va_recv hK hP (ci := 9) (q0 := 0) rfl rfl, fun U hU hW => ⟨rfl, by rw [hU], by rw [hU]; exact hP, va_K.moved hW.alike hK, hD.weaken (fun _ _ _ _ => trivial)⟩⟩ rfl rfl hl.1 rfl (lv_room (Nat.le_of_ble_eq_true rfl)) dX9_test__151 ⟨Nat.le_of_ble_eq_true rfl, Nat.le_of_ble_eq_true rfl⟩) hS (fun q _ h => hFc q h) hFc (fun u t H1 locs ht hvm w_220 hB hz1 hk1 hS => ?_)
            obtain ⟨f19_221, q_222, hP1, hK1, hD1⟩ := hB
            replace q_222 : f19_221 = upd ((fv 19)) (200 * n14 + n30) 13 := q_222
            rw [ht] at hP1
            have hK := va_K.moved hvm.symm hK1
            generalize H1 = H at hP1 hS ⊢
            have hP : va_P D vwCl (mw h0 ad cs (upd (upd (upd (upd iv 21 (nI 0)) 22 p22_206) 25 (nI k25_207)) 30 (nI (n30 + 1))) (uF fv 19 f19_221) gv) H := hP1
            have hD : va_D A (mw h0 ad cs (upd (upd (upd (upd iv 21 (nI 0)) 22 p22_206) 25 (nI k25_207)) 30 (nI (n30 + 1))) (uF fv 19 f19_221) gv) := hD1.weaken (fun _ _ _ h => hFc _ h)
            refine lv_aload_n hx hb dX9_test__154 rfl (lv_at hl 4 rfl) ?_
            refine lv_iload_n hx hb dX9_test__155 rfl (lv_at hl 2 rfl) ?_
            have hFc := free_all hD hS hA
            refine va_callv (va_runV (As := [.int (nI (10 + v_174))]) (rest := []) ⟨hx, hb, hml, hown, hts⟩ (m_add l D h0 ad cs (upd (upd (upd (upd iv 21 (nI 0)) 22 p22_206) 25 (nI k25_207)) 30 (nI (n30 + 1))) (uF fv 19 f19_221) gv n14 (n30 + 1) (nI (10 + v_174)) H.size h14 rfl (by omega) (by omega)) (cwV 1 hts gX9_test__X9_add rfl rfl rfl (by decide +kernel) ⟨Nat.le_of_ble_eq_true rfl, Nat.le_of_ble_eq_true rfl⟩) ⟨fun a U g mk q => by obtain ⟨q0, q1, qP, qK, qD⟩ := q; exact ⟨q0, q1, qP, va_K.moved (u := U) (U := U.calling g mk a) (Vm.Alike.refl U.vm) qK, qD⟩, va_recv hK hP (ci := 9) (q0 := 0) rfl rfl, fun U hU hW => ⟨rfl, by rw [hU], by rw [hU]; exact hP, va_K.moved hW.alike hK, hD.weaken (fun _ _ _ _ => trivial)⟩⟩ rfl rfl hl.1 rfl (lv_room (Nat.le_of_ble_eq_true rfl)) dX9_test__156 ⟨Nat.le_of_ble_eq_true rfl, Nat.le_of_ble_eq_true rfl⟩) hS (fun q _ h => hFc q h) hFc (fun u t H1 locs ht hvm w_224 hB hz1 hk1 hS => ?_)
            obtain ⟨f19_225, q_226, hP1, hK1, hD1⟩ := hB
            replace q_226 : f19_225 = upd ((f19_221)) (200 * n14 + (n30 + 1)) (nI (10 + v_174)) := q_226
            rw [ht] at hP1
            have hK := va_K.moved hvm.symm hK1
            generalize H1 = H at hP1 hS ⊢
            have hP : va_P D vwCl (mw h0 ad cs (upd (upd (upd (upd iv 21 (nI 0)) 22 p22_206) 25 (nI k25_207)) 30 (nI ((n30 + 1) + 1))) (uF fv 19 f19_225) gv) H := hP1
            have hD : va_D A (mw h0 ad cs (upd (upd (upd (upd iv 21 (nI 0)) 22 p22_206) 25 (nI k25_207)) 30 (nI ((n30 + 1) + 1))) (uF fv 19 f19_225) gv) := hD1.weaken (fun _ _ _ h => hFc _ h)
            refine lv_aload_n hx hb dX9_test__159 rfl (lv_at hl 4 rfl) ?_
            refine lv_iload_n hx hb dX9_test__160 rfl (lv_at hl 1 rfl) ?_
            have hFc := free_all hD hS hA
            refine va_callv (va_runV (As := [.int (nI c_185)]) (rest := []) ⟨hx, hb, hml, hown, hts⟩ (m_add l D h0 ad cs (upd (upd (upd (upd iv 21 (nI 0)) 22 p22_206) 25 (nI k25_207)) 30 (nI ((n30 + 1) + 1))) (uF fv 19 f19_225) gv n14 ((n30 + 1) + 1) (nI c_185) H.size h14 rfl (by omega) (by omega)) (cwV 1 hts gX9_test__X9_add rfl rfl rfl (by decide +kernel) ⟨Nat.le_of_ble_eq_true rfl, Nat.le_of_ble_eq_true rfl⟩) ⟨fun a U g mk q => by obtain ⟨q0, q1, qP, qK, qD⟩ := q; exact ⟨q0, q1, qP, va_K.moved (u := U) (U := U.calling g mk a) (Vm.Alike.refl U.vm) qK, qD⟩, va_recv hK hP (ci := 9) (q0 := 0) rfl rfl, fun U hU hW => ⟨rfl, by rw [hU], by rw [hU]; exact hP, va_K.moved hW.alike hK, hD.weaken (fun _ _ _ _ => trivial)⟩⟩ rfl rfl hl.1 rfl (lv_room (Nat.le_of_ble_eq_true rfl)) dX9_test__161 ⟨Nat.le_of_ble_eq_true rfl, Nat.le_of_ble_eq_true rfl⟩) hS (fun q _ h => hFc q h) hFc (fun u t H1 locs ht hvm w_228 hB hz1 hk1 hS => ?_)
            obtain ⟨f19_229, q_230, hP1, hK1, hD1⟩ := hB
            replace q_230 : f19_229 = upd ((f19_225)) (200 * n14 + ((n30 + 1) + 1)) (nI c_185) := q_230
            rw [ht] at hP1
            have hK := va_K.moved hvm.symm hK1
            generalize H1 = H at hP1 hS ⊢
            have hP : va_P D vwCl (mw h0 ad cs (upd (upd (upd (upd iv 21 (nI 0)) 22 p22_206) 25 (nI k25_207)) 30 (nI (((n30 + 1) + 1) + 1))) (uF fv 19 f19_229) gv) H := hP1
            have hD : va_D A (mw h0 ad cs (upd (upd (upd (upd iv 21 (nI 0)) 22 p22_206) 25 (nI k25_207)) 30 (nI (((n30 + 1) + 1) + 1))) (uF fv 19 f19_229) gv) := hD1.weaken (fun _ _ _ h => hFc _ h)
            refine lv_aload_n hx hb dX9_test__164 rfl (lv_at hl 4 rfl) ?_
            refine lv_iload hx hb dX9_test__165 (lv_at hl 0 rfl) ?_
            have hFc := free_all hD hS hA
            refine va_callv (va_runV (As := [.int (nI v_215)]) (rest := []) ⟨hx, hb, hml, hown, hts⟩ (m_add l D h0 ad cs (upd (upd (upd (upd iv 21 (nI 0)) 22 p22_206) 25 (nI k25_207)) 30 (nI (((n30 + 1) + 1) + 1))) (uF fv 19 f19_229) gv n14 (((n30 + 1) + 1) + 1) (nI v_215) H.size h14 rfl (by omega) (by omega)) (cwV 1 hts gX9_test__X9_add rfl rfl rfl (by decide +kernel) ⟨Nat.le_of_ble_eq_true rfl, Nat.le_of_ble_eq_true rfl⟩) ⟨fun a U g mk q => by obtain ⟨q0, q1, qP, qK, qD⟩ := q; exact ⟨q0, q1, qP, va_K.moved (u := U) (U := U.calling g mk a) (Vm.Alike.refl U.vm) qK, qD⟩, va_recv hK hP (ci := 9) (q0 := 0) rfl rfl, fun U hU hW => ⟨rfl, by rw [hU], by rw [hU]; exact hP, va_K.moved hW.alike hK, hD.weaken (fun _ _ _ _ => trivial)⟩⟩ rfl rfl hl.1 rfl (lv_room (Nat.le_of_ble_eq_true rfl)) dX9_test__167 ⟨Nat.le_of_ble_eq_true rfl, Nat.le_of_ble_eq_true rfl⟩) hS (fun q _ h => hFc q h) hFc (fun u t H1 locs ht hvm w_232 hB hz1 hk1 hS => ?_)
            obtain ⟨f19_233, q_234, hP1, hK1, hD1⟩ := hB
            replace q_234 : f19_233 = upd ((f19_229)) (200 * n14 + (((n30 + 1) + 1) + 1)) (nI v_215) := q_234
            rw [ht] at hP1
            have hK := va_K.moved hvm.symm hK1
            generalize H1 = H at hP1 hS ⊢
            have hP : va_P D vwCl (mw h0 ad cs (upd (upd (upd (upd iv 21 (nI 0)) 22 p22_206) 25 (nI k25_207)) 30 (nI ((((n30 + 1) + 1) + 1) + 1))) (uF fv 19 f19_233) gv) H := hP1
            have hD : va_D A (mw h0 ad cs (upd (upd (upd (upd iv 21 (nI 0)) 22 p22_206) 25 (nI k25_207)) 30 (nI ((((n30 + 1) + 1) + 1) + 1))) (uF fv 19 f19_233) gv) := hD1.weaken (fun _ _ _ h => hFc _ h)
            have hP : va_P D vwCl (mw h0 ad cs (upd (upd (upd (upd iv 21 (nI 0)) 22 p22_206) 25 (nI k25_207)) 30 (nI ((((n30 + 1) + 1) + 1) + 1))) (uF fv 19 f19_233) gv) H := hP
            have hD : va_D A (mw h0 ad cs (upd (upd (upd (upd iv 21 (nI 0)) 22 p22_206) 25 (nI k25_207)) 30 (nI ((((n30 + 1) + 1) + 1) + 1))) (uF fv 19 f19_233) gv) := hD
            exact W.vret hx hb hr (fun t ht hW => ⟨⟨(), rfl, trivial, 0, p22_206, k25_207, (((n30 + 1) + 1) + 1) + 1, f19_233, by omega, by omega, by omega, Or.inr ⟨by omega, by omega, by omega, fun i h9 => by rw [q_234, up_ne (by omega), q_230, up_ne (by omega), q_226, up_ne (by omega), q_222, up_ne (by omega)], by rw [q_234, up_ne (by omega), q_230, up_ne (by omega), q_226, up_ne (by omega), q_222, up_eq], by rw [q_234, up_ne (by omega), q_230, up_ne (by omega), q_226, up_eq]; exact ⟨10 + v_174, by omega, rfl⟩⟩, by rw [ht]; exact hP, va_K.moved hW.alike hK, hD⟩, hS.F ht⟩) hS.2.2 dX9_test__170
          have d_235 := n_ne (a := c_185) (b := 9) (by omega) (by omega) c_197
          refine lv_iload_n hx hb dX9_test__107 rfl (lv_at hl 0 rfl) ?_
          refine lv_bipush (v := 10) hx hb dX9_test__108 (by decide) ?_
          refine lv_icmp_eq (tgt := 123) hx hb dX9_test__110 (by decide) (fun c_236 => ?_) (fun c_236 => ?_)
          · have d_237 := n_eq (a := c_185) (b := 10) (by omega) (by omega) c_236
            refine lv_aload_n hx hb dX9_test__123 rfl (lv_at hl 3 rfl) ?_
            refine lv_aload_n hx hb dX9_test__124 rfl (lv_at hl 3 rfl) ?_
            refine vp_callSi (W.runV (As := []) (rest := [.ref h0]) ⟨hx, hb, hml, hown, hts⟩ (m_wordEnd l D h0 ad cs (upd (upd (upd iv 21 (nI 0)) 22 p22_165) 25 (nI k25_180)) fv gv k25_180 n26  rfl h26 (by omega) (by omega)) (cwV 0 hts gX9_test__X9_wordEnd rfl rfl rfl (by decide +kernel) ⟨Nat.le_of_ble_eq_true rfl, Nat.le_of_ble_eq_true rfl⟩) ⟨fun a U g mk q => ⟨q.1, q.2.1, va_K.moved (u := U) (U := U.calling g mk a) (Vm.Alike.refl U.vm) q.2.2⟩, va_recv hK hP (ci := 9) (q0 := 0) rfl rfl, fun U hU hW => ⟨rfl, by rw [hU]; exact hP, va_K.moved hW.alike hK⟩⟩ rfl rfl hl.1 rfl (lv_room (Nat.le_of_ble_eq_true rfl)) dX9_test__125 ⟨Nat.le_of_ble_eq_true rfl, Nat.le_of_ble_eq_true rfl⟩) (fun r_238 k_239 => ?_)
            obtain ⟨e_240, rfl, he_241⟩ := k_239
            have hq_e_240 : e_240 = e_186 := he_241.uq he_187
            refine va_put (D := D) (ci := 9) (v := .int (nI e_240)) (ty := .int) (C := RX9) (T := TX9) (N := 44) hx hb hts hin9 tyX9 tyX9_ok nmX9 hown hK hP hD hS 0 rfl rfl 25 (by decide) (hts (.fieldLink RX9 87 "HoneyHouseModel" "at" "I") (List.mem_of_getElem? (i := 1) rfl)) (fun _ h9 => h9) rfl (tyX9_ok 25 (by decide)) rfl rfl (Nat.le_of_ble_eq_true rfl) dX9_test__128 (fun H locs hP hD hS => ?_)
            have hP : va_P D vwCl (mw h0 ad cs (upd (upd (upd iv 21 (nI 0)) 22 p22_165) 25 (nI e_240)) fv gv) H := hP
            have hD : va_D A (mw h0 ad cs (upd (upd (upd iv 21 (nI 0)) 22 p22_165) 25 (nI e_240)) fv gv) := hD
            refine lv_aload_n hx hb dX9_test__131 rfl (lv_at hl 3 rfl) ?_
            refine lv_sipush (v := 1000) hx hb dX9_test__132 (by decide) ?_
            have hFc := free_all hD hS hA
            refine va_calli (va_runV (As := [.int 1000]) (rest := []) ⟨hx, hb, hml, hown, hts⟩ (m_number l D h0 ad cs (upd (upd (upd iv 21 (nI 0)) 22 p22_165) 25 (nI e_240)) fv gv 0 e_240 n26 1000 H.size rfl rfl h26 (by omega) (by omega) (by omega) (by omega)) (cwV 1 hts gX9_test__X9_number rfl rfl rfl (by decide +kernel) ⟨Nat.le_of_ble_eq_true rfl, Nat.le_of_ble_eq_true rfl⟩) ⟨fun a U g mk q => by obtain ⟨q0, q1, qP, qK, qD⟩ := q; exact ⟨q0, q1, qP, va_K.moved (u := U) (U := U.calling g mk a) (Vm.Alike.refl U.vm) qK, qD⟩, va_recv hK hP (ci := 9) (q0 := 0) rfl rfl, fun U hU hW => ⟨rfl, by rw [hU], by rw [hU]; exact hP, va_K.moved hW.alike hK, hD.weaken (fun _ _ _ _ => trivial)⟩⟩ rfl rfl hl.1 rfl (lv_room (Nat.le_of_ble_eq_true rfl)) dX9_test__135 ⟨Nat.le_of_ble_eq_true rfl, Nat.le_of_ble_eq_true rfl⟩) hS (fun q _ h => hFc q h) hFc (fun r_242 u t H1 locs ht hvm w_243 hB hz1 hk1 hS => ?_)
            subst w_243
            obtain ⟨k21_244, p22_245, k25_246, q_247, q_248, q_249, q_250, hP1, hK1, hD1⟩ := hB
            rw [ht] at hP1
            have hK := va_K.moved hvm.symm hK1
            generalize H1 = H at hP1 hS ⊢
            have hP : va_P D vwCl (mw h0 ad cs (upd (upd (upd iv 21 (nI k21_244)) 22 p22_245) 25 (nI k25_246)) fv gv) H := hP1
            have hD : va_D A (mw h0 ad cs (upd (upd (upd iv 21 (nI k21_244)) 22 p22_245) 25 (nI k25_246)) fv gv) := hD1.weaken (fun _ _ _ h => hFc _ h)
            rcases q_250 with hp_251 | ⟨rfl, hg_253, v_254, hv_255, rfl⟩
            · refine lv_istore (lv' := [(4, .int r_242), (3, .int (nI c_185)), (2, .int (nI (10 + v_174))), (1, .int (nI c_8)), (0, .ref h0)]) hx hb dX9_test__138 hl (by decide) rfl (fun ls hl => ?_)
              refine lv_aload_n hx hb dX9_test__140 rfl (lv_at hl 4 rfl) ?_
              refine va_get (D := D) (ci := 9) (v := .int (nI k21_244)) (C := RX9) (T := TX9) (N := 44) hx hb hts hin9 hown hK hP 0 rfl rfl 21 (by decide) (hts (.fieldLink RX9 74 "HoneyHouseModel" "faultKind" "I") (List.mem_of_getElem? (i := 2) rfl)) (fun _ h9 => h9) rfl dX9_test__141 ?_
              refine lv_if_le (tgt := 148) hx hb dX9_test__144 (by decide) (fun c_256 => absurd c_256 (nI_nle (n := k21_244) (by omega) (by omega))) (fun c_256 => ?_)
              have hP : va_P D vwCl (mw h0 ad cs (upd (upd (upd (upd iv 21 (nI k21_244)) 22 p22_245) 25 (nI k25_246)) 30 (iv 30)) (uF fv 19 (fv 19)) gv) H := hP
              have hD : va_D A (mw h0 ad cs (upd (upd (upd (upd iv 21 (nI k21_244)) 22 p22_245) 25 (nI k25_246)) 30 (iv 30)) (uF fv 19 (fv 19)) gv) := hD
              have hP := hP
              rw [h30] at hP hD
              exact W.vret hx hb hr (fun t ht hW => ⟨⟨(), rfl, trivial, k21_244, p22_245, k25_246, n30, fv 19, by omega, by omega, by omega, Or.inl ⟨by omega, by omega, rfl⟩, by rw [ht]; exact hP, va_K.moved hW.alike hK, hD⟩, hS.F ht⟩) hS.2.2 dX9_test__147
            refine lv_istore (lv' := [(4, .int (nI v_254)), (3, .int (nI c_185)), (2, .int (nI (10 + v_174))), (1, .int (nI c_8)), (0, .ref h0)]) hx hb dX9_test__138 hl (by decide) rfl (fun ls hl => ?_)
            refine lv_aload_n hx hb dX9_test__140 rfl (lv_at hl 4 rfl) ?_
            refine va_get (D := D) (ci := 9) (v := .int (nI 0)) (C := RX9) (T := TX9) (N := 44) hx hb hts hin9 hown hK hP 0 rfl rfl 21 (by decide) (hts (.fieldLink RX9 74 "HoneyHouseModel" "faultKind" "I") (List.mem_of_getElem? (i := 2) rfl)) (fun _ h9 => h9) rfl dX9_test__141 ?_
            refine lv_if_le (tgt := 148) hx hb dX9_test__144 (by decide) (fun c_257 => ?_) (fun c_257 => absurd (by decide) c_257)
            refine lv_aload_n hx hb dX9_test__148 rfl (lv_at hl 4 rfl) ?_
            refine lv_bipush (v := 13) hx hb dX9_test__149 (by decide) ?_
            have hFc := free_all hD hS hA
            refine va_callv (va_runV (As := [.int 13]) (rest := []) ⟨hx, hb, hml, hown, hts⟩ (m_add l D h0 ad cs (upd (upd (upd iv 21 (nI 0)) 22 p22_245) 25 (nI k25_246)) fv gv n14 n30 13 H.size h14 h30 (by omega) (by omega)) (cwV 1 hts gX9_test__X9_add rfl rfl rfl (by decide +kernel) ⟨Nat.le_of_ble_eq_true rfl, Nat.le_of_ble_eq_true rfl⟩) ⟨fun a U g mk q => by obtain ⟨q0, q1, qP, qK, qD⟩ := q; exact ⟨q0, q1, qP, va_K.moved (u := U) (U := U.calling g mk a) (Vm.Alike.refl U.vm) qK, qD⟩, va_recv hK hP (ci := 9) (q0 := 0) rfl rfl, fun U hU hW => ⟨rfl, by rw [hU], by rw [hU]; exact hP, va_K.moved hW.alike hK, hD.weaken (fun _ _ _ _ => trivial)⟩⟩ rfl rfl hl.1 rfl (lv_room (Nat.le_of_ble_eq_true rfl)) dX9_test__151 ⟨Nat.le_of_ble_eq_true rfl, Nat.le_of_ble_eq_true rfl⟩) hS (fun q _ h => hFc q h) hFc (fun u t H1 locs ht hvm w_259 hB hz1 hk1 hS => ?_)
            obtain ⟨f19_260, q_261, hP1, hK1, hD1⟩ := hB
            replace q_261 : f19_260 = upd ((fv 19)) (200 * n14 + n30) 13 := q_261
            rw [ht] at hP1
            have hK := va_K.moved hvm.symm hK1
            generalize H1 = H at hP1 hS ⊢
            have hP : va_P D vwCl (mw h0 ad cs (upd (upd (upd (upd iv 21 (nI 0)) 22 p22_245) 25 (nI k25_246)) 30 (nI (n30 + 1))) (uF fv 19 f19_260) gv) H := hP1
            have hD : va_D A (mw h0 ad cs (upd (upd (upd (upd iv 21 (nI 0)) 22 p22_245) 25 (nI k25_246)) 30 (nI (n30 + 1))) (uF fv 19 f19_260) gv) := hD1.weaken (fun _ _ _ h => hFc _ h)
            refine lv_aload_n hx hb dX9_test__154 rfl (lv_at hl 4 rfl) ?_
            refine lv_iload_n hx hb dX9_test__155 rfl (lv_at hl 2 rfl) ?_
            have hFc := free_all hD hS hA
            refine va_callv (va_runV (As := [.int (nI (10 + v_174))]) (rest := []) ⟨hx, hb, hml, hown, hts⟩ (m_add l D h0 ad cs (upd (upd (upd (upd iv 21 (nI 0)) 22 p22_245) 25 (nI k25_246)) 30 (nI (n30 + 1))) (uF fv 19 f19_260) gv n14 (n30 + 1) (nI (10 + v_174)) H.size h14 rfl (by omega) (by omega)) (cwV 1 hts gX9_test__X9_add rfl rfl rfl (by decide +kernel) ⟨Nat.le_of_ble_eq_true rfl, Nat.le_of_ble_eq_true rfl⟩) ⟨fun a U g mk q => by obtain ⟨q0, q1, qP, qK, qD⟩ := q; exact ⟨q0, q1, qP, va_K.moved (u := U) (U := U.calling g mk a) (Vm.Alike.refl U.vm) qK, qD⟩, va_recv hK hP (ci := 9) (q0 := 0) rfl rfl, fun U hU hW => ⟨rfl, by rw [hU], by rw [hU]; exact hP, va_K.moved hW.alike hK, hD.weaken (fun _ _ _ _ => trivial)⟩⟩ rfl rfl hl.1 rfl (lv_room (Nat.le_of_ble_eq_true rfl)) dX9_test__156 ⟨Nat.le_of_ble_eq_true rfl, Nat.le_of_ble_eq_true rfl⟩) hS (fun q _ h => hFc q h) hFc (fun u t H1 locs ht hvm w_263 hB hz1 hk1 hS => ?_)
            obtain ⟨f19_264, q_265, hP1, hK1, hD1⟩ := hB
            replace q_265 : f19_264 = upd ((f19_260)) (200 * n14 + (n30 + 1)) (nI (10 + v_174)) := q_265
            rw [ht] at hP1
            have hK := va_K.moved hvm.symm hK1
            generalize H1 = H at hP1 hS ⊢
            have hP : va_P D vwCl (mw h0 ad cs (upd (upd (upd (upd iv 21 (nI 0)) 22 p22_245) 25 (nI k25_246)) 30 (nI ((n30 + 1) + 1))) (uF fv 19 f19_264) gv) H := hP1
            have hD : va_D A (mw h0 ad cs (upd (upd (upd (upd iv 21 (nI 0)) 22 p22_245) 25 (nI k25_246)) 30 (nI ((n30 + 1) + 1))) (uF fv 19 f19_264) gv) := hD1.weaken (fun _ _ _ h => hFc _ h)
            refine lv_aload_n hx hb dX9_test__159 rfl (lv_at hl 4 rfl) ?_
            refine lv_iload_n hx hb dX9_test__160 rfl (lv_at hl 1 rfl) ?_
            have hFc := free_all hD hS hA
            refine va_callv (va_runV (As := [.int (nI c_185)]) (rest := []) ⟨hx, hb, hml, hown, hts⟩ (m_add l D h0 ad cs (upd (upd (upd (upd iv 21 (nI 0)) 22 p22_245) 25 (nI k25_246)) 30 (nI ((n30 + 1) + 1))) (uF fv 19 f19_264) gv n14 ((n30 + 1) + 1) (nI c_185) H.size h14 rfl (by omega) (by omega)) (cwV 1 hts gX9_test__X9_add rfl rfl rfl (by decide +kernel) ⟨Nat.le_of_ble_eq_true rfl, Nat.le_of_ble_eq_true rfl⟩) ⟨fun a U g mk q => by obtain ⟨q0, q1, qP, qK, qD⟩ := q; exact ⟨q0, q1, qP, va_K.moved (u := U) (U := U.calling g mk a) (Vm.Alike.refl U.vm) qK, qD⟩, va_recv hK hP (ci := 9) (q0 := 0) rfl rfl, fun U hU hW => ⟨rfl, by rw [hU], by rw [hU]; exact hP, va_K.moved hW.alike hK, hD.weaken (fun _ _ _ _ => trivial)⟩⟩ rfl rfl hl.1 rfl (lv_room (Nat.le_of_ble_eq_true rfl)) dX9_test__161 ⟨Nat.le_of_ble_eq_true rfl, Nat.le_of_ble_eq_true rfl⟩) hS (fun q _ h => hFc q h) hFc (fun u t H1 locs ht hvm w_267 hB hz1 hk1 hS => ?_)
            obtain ⟨f19_268, q_269, hP1, hK1, hD1⟩ := hB
            replace q_269 : f19_268 = upd ((f19_264)) (200 * n14 + ((n30 + 1) + 1)) (nI c_185) := q_269
            rw [ht] at hP1
            have hK := va_K.moved hvm.symm hK1
            generalize H1 = H at hP1 hS ⊢
            have hP : va_P D vwCl (mw h0 ad cs (upd (upd (upd (upd iv 21 (nI 0)) 22 p22_245) 25 (nI k25_246)) 30 (nI (((n30 + 1) + 1) + 1))) (uF fv 19 f19_268) gv) H := hP1
            have hD : va_D A (mw h0 ad cs (upd (upd (upd (upd iv 21 (nI 0)) 22 p22_245) 25 (nI k25_246)) 30 (nI (((n30 + 1) + 1) + 1))) (uF fv 19 f19_268) gv) := hD1.weaken (fun _ _ _ h => hFc _ h)
            refine lv_aload_n hx hb dX9_test__164 rfl (lv_at hl 4 rfl) ?_
            refine lv_iload hx hb dX9_test__165 (lv_at hl 0 rfl) ?_
            have hFc := free_all hD hS hA
            refine va_callv (va_runV (As := [.int (nI v_254)]) (rest := []) ⟨hx, hb, hml, hown, hts⟩ (m_add l D h0 ad cs (upd (upd (upd (upd iv 21 (nI 0)) 22 p22_245) 25 (nI k25_246)) 30 (nI (((n30 + 1) + 1) + 1))) (uF fv 19 f19_268) gv n14 (((n30 + 1) + 1) + 1) (nI v_254) H.size h14 rfl (by omega) (by omega)) (cwV 1 hts gX9_test__X9_add rfl rfl rfl (by decide +kernel) ⟨Nat.le_of_ble_eq_true rfl, Nat.le_of_ble_eq_true rfl⟩) ⟨fun a U g mk q => by obtain ⟨q0, q1, qP, qK, qD⟩ := q; exact ⟨q0, q1, qP, va_K.moved (u := U) (U := U.calling g mk a) (Vm.Alike.refl U.vm) qK, qD⟩, va_recv hK hP (ci := 9) (q0 := 0) rfl rfl, fun U hU hW => ⟨rfl, by rw [hU], by rw [hU]; exact hP, va_K.moved hW.alike hK, hD.weaken (fun _ _ _ _ => trivial)⟩⟩ rfl rfl hl.1 rfl (lv_room (Nat.le_of_ble_eq_true rfl)) dX9_test__167 ⟨Nat.le_of_ble_eq_true rfl, Nat.le_of_ble_eq_true rfl⟩) hS (fun q _ h => hFc q h) hFc (fun u t H1 locs ht hvm w_271 hB hz1 hk1 hS => ?_)
            obtain ⟨f19_272, q_273, hP1, hK1, hD1⟩ := hB
            replace q_273 : f19_272 = upd ((f19_268)) (200 * n14 + (((n30 + 1) + 1) + 1)) (nI v_254) := q_273
            rw [ht] at hP1
            have hK := va_K.moved hvm.symm hK1
            generalize H1 = H at hP1 hS ⊢
            have hP : va_P D vwCl (mw h0 ad cs (upd (upd (upd (upd iv 21 (nI 0)) 22 p22_245) 25 (nI k25_246)) 30 (nI ((((n30 + 1) + 1) + 1) + 1))) (uF fv 19 f19_272) gv) H := hP1
            have hD : va_D A (mw h0 ad cs (upd (upd (upd (upd iv 21 (nI 0)) 22 p22_245) 25 (nI k25_246)) 30 (nI ((((n30 + 1) + 1) + 1) + 1))) (uF fv 19 f19_272) gv) := hD1.weaken (fun _ _ _ h => hFc _ h)
            have hP : va_P D vwCl (mw h0 ad cs (upd (upd (upd (upd iv 21 (nI 0)) 22 p22_245) 25 (nI k25_246)) 30 (nI ((((n30 + 1) + 1) + 1) + 1))) (uF fv 19 f19_272) gv) H := hP
            have hD : va_D A (mw h0 ad cs (upd (upd (upd (upd iv 21 (nI 0)) 22 p22_245) 25 (nI k25_246)) 30 (nI ((((n30 + 1) + 1) + 1) + 1))) (uF fv 19 f19_272) gv) := hD
            exact W.vret hx hb hr (fun t ht hW => ⟨⟨(), rfl, trivial, 0, p22_245, k25_246, (((n30 + 1) + 1) + 1) + 1, f19_272, by omega, by omega, by omega, Or.inr ⟨by omega, by omega, by omega, fun i h9 => by rw [q_273, up_ne (by omega), q_269, up_ne (by omega), q_265, up_ne (by omega), q_261, up_ne (by omega)], by rw [q_273, up_ne (by omega), q_269, up_ne (by omega), q_265, up_ne (by omega), q_261, up_eq], by rw [q_273, up_ne (by omega), q_269, up_ne (by omega), q_265, up_eq]; exact ⟨10 + v_174, by omega, rfl⟩⟩, by rw [ht]; exact hP, va_K.moved hW.alike hK, hD⟩, hS.F ht⟩) hS.2.2 dX9_test__170
          have d_274 := n_ne (a := c_185) (b := 10) (by omega) (by omega) c_236
          refine lv_aload_n hx hb dX9_test__113 rfl (lv_at hl 3 rfl) ?_
          refine lv_iconst (v := 1) hx hb dX9_test__114 (by decide) ?_
          refine lv_aload_n hx hb dX9_test__115 rfl (lv_at hl 3 rfl) ?_
          refine va_get (D := D) (ci := 9) (v := .int (nI k25_180)) (C := RX9) (T := TX9) (N := 44) hx hb hts hin9 hown hK hP 0 rfl rfl 25 (by decide) (hts (.fieldLink RX9 87 "HoneyHouseModel" "at" "I") (List.mem_of_getElem? (i := 1) rfl)) (fun _ h9 => h9) rfl dX9_test__116 ?_
          have hFc := free_all hD hS hA
          refine va_callv (va_runV (As := [.int 1, .int (nI k25_180)]) (rest := []) ⟨hx, hb, hml, hown, hts⟩ (m_blame l D h0 ad cs (upd (upd (upd iv 21 (nI 0)) 22 p22_165) 25 (nI k25_180)) fv gv 0 1 (nI k25_180) H.size rfl (by omega) (by omega)) (cwV 2 hts gX9_test__X9_blame rfl rfl rfl (by decide +kernel) ⟨Nat.le_of_ble_eq_true rfl, Nat.le_of_ble_eq_true rfl⟩) ⟨fun a U g mk q => by obtain ⟨q0, q1, qP, qK, qD⟩ := q; exact ⟨q0, q1, qP, va_K.moved (u := U) (U := U.calling g mk a) (Vm.Alike.refl U.vm) qK, qD⟩, va_recv hK hP (ci := 9) (q0 := 0) rfl rfl, fun U hU hW => ⟨rfl, by rw [hU], by rw [hU]; exact hP, va_K.moved hW.alike hK, hD.weaken (fun _ _ _ _ => trivial)⟩⟩ rfl rfl hl.1 rfl (lv_room (Nat.le_of_ble_eq_true rfl)) dX9_test__119 ⟨Nat.le_of_ble_eq_true rfl, Nat.le_of_ble_eq_true rfl⟩) hS (fun q _ h => hFc q h) hFc (fun u t H1 locs ht hvm w_276 hB hz1 hk1 hS => ?_)
          obtain ⟨k21_277, p22_278, q_279, q_280, hP1, hK1, hD1⟩ := hB
          rw [ht] at hP1
          have hK := va_K.moved hvm.symm hK1
          generalize H1 = H at hP1 hS ⊢
          have hP : va_P D vwCl (mw h0 ad cs (upd (upd (upd iv 21 (nI k21_277)) 22 p22_278) 25 (nI k25_180)) fv gv) H := hP1
          have hD : va_D A (mw h0 ad cs (upd (upd (upd iv 21 (nI k21_277)) 22 p22_278) 25 (nI k25_180)) fv gv) := hD1.weaken (fun _ _ _ h => hFc _ h)
          have hP : va_P D vwCl (mw h0 ad cs (upd (upd (upd (upd iv 21 (nI k21_277)) 22 p22_278) 25 (nI k25_180)) 30 (iv 30)) (uF fv 19 (fv 19)) gv) H := hP
          have hD : va_D A (mw h0 ad cs (upd (upd (upd (upd iv 21 (nI k21_277)) 22 p22_278) 25 (nI k25_180)) 30 (iv 30)) (uF fv 19 (fv 19)) gv) := hD
          have hP := hP
          rw [h30] at hP hD
          exact W.vret hx hb hr (fun t ht hW => ⟨⟨(), rfl, trivial, k21_277, p22_278, k25_180, n30, fv 19, by omega, by omega, by omega, Or.inl ⟨by omega, by omega, rfl⟩, by rw [ht]; exact hP, va_K.moved hW.alike hK, hD⟩, hS.F ht⟩) hS.2.2 dX9_test__122
        have d_281 := n_eq (a := c_8) (b := 6) (by omega) (by omega) c_38
        refine lv_iconst (v := 2) hx hb dX9_test__58 (by decide) ?_
        refine lv_goto (tgt := 87) hx hb dX9_test__59 (by decide) ?_
        refine lv_istore_n (lv' := [(2, .int 2), (1, .int (nI c_8)), (0, .ref h0)]) hx hb dX9_test__87 rfl hl (by decide) rfl (fun ls hl => ?_)
        refine lv_aload_n hx hb dX9_test__88 rfl (lv_at hl 2 rfl) ?_
        refine va_get (D := D) (ci := 9) (v := .int (iv 21)) (C := RX9) (T := TX9) (N := 44) hx hb hts hin9 hown hK hP 0 rfl rfl 21 (by decide) (hts (.fieldLink RX9 74 "HoneyHouseModel" "faultKind" "I") (List.mem_of_getElem? (i := 2) rfl)) (fun _ h9 => h9) rfl dX9_test__89 ?_
        refine tp_i (y := nI n21) (h21) ?_
        refine lv_if_le (tgt := 96) hx hb dX9_test__92 (by decide) (fun c_282 => ?_) (fun c_282 => ?_)
        · have d_283 := n_le (a := n21) (b := 0) (by omega) (by omega) c_282
          refine lv_aload_n hx hb dX9_test__96 rfl (lv_at hl 2 rfl) ?_
          have hFc := free_all hD hS hA
          refine va_calli (va_runV (As := []) (rest := []) ⟨hx, hb, hml, hown, hts⟩ (m_peek l D h0 ad cs (upd iv 25 (nI e_32)) fv gv e_32 n26  H.size rfl h26 (by omega) (by omega)) (cwV 0 hts gX9_test__X9_peek rfl rfl rfl (by decide +kernel) ⟨Nat.le_of_ble_eq_true rfl, Nat.le_of_ble_eq_true rfl⟩) ⟨fun a U g mk q => by obtain ⟨q0, q1, qP, qK, qD⟩ := q; exact ⟨q0, q1, qP, va_K.moved (u := U) (U := U.calling g mk a) (Vm.Alike.refl U.vm) qK, qD⟩, va_recv hK hP (ci := 9) (q0 := 0) rfl rfl, fun U hU hW => ⟨rfl, by rw [hU], by rw [hU]; exact hP, va_K.moved hW.alike hK, hD.weaken (fun _ _ _ _ => trivial)⟩⟩ rfl rfl hl.1 rfl (lv_room (Nat.le_of_ble_eq_true rfl)) dX9_test__97 ⟨Nat.le_of_ble_eq_true rfl, Nat.le_of_ble_eq_true rfl⟩) hS (fun q _ h => hFc q h) hFc (fun r_284 u t H1 locs ht hvm w_285 hB hz1 hk1 hS => ?_)
          subst w_285
          obtain ⟨k25_286, q_287, q_288, q_289, q_290, hP1, hK1, hD1⟩ := hB
          replace q_289 : (e_32 = n26 ∨ ¬ blk ((fv 0) e_32)) → k25_286 = e_32 := q_289
          replace q_290 : r_284 = (-1) ∨ ∃ c e : Nat, r_284 = nI c ∧ isE ((fv 0)) n26 k25_286 e ∧ ((c = 0 ∧ e = k25_286 + 4) ∨ (c = 1 ∧ e = k25_286 + 2) ∨ (c = 2 ∧ e = k25_286 + 3) ∨ (c = 3 ∧ e = k25_286 + 3) ∨ (c = 4 ∧ e = k25_286 + 5) ∨ (c = 5 ∧ e = k25_286 + 6) ∨ (c = 6 ∧ e = k25_286 + 4) ∨ (c = 7 ∧ e = k25_286 + 6) ∨ (c = 8 ∧ e = k25_286 + 4) ∨ (c = 9 ∧ e = k25_286 + 3) ∨ (c = 10 ∧ e = k25_286 + 3) ∨ c = 11) := q_290
          rw [ht] at hP1
          have hK := va_K.moved hvm.symm hK1
          generalize H1 = H at hP1 hS ⊢
          have hP : va_P D vwCl (mw h0 ad cs (upd iv 25 (nI k25_286)) fv gv) H := hP1
          have hD : va_D A (mw h0 ad cs (upd iv 25 (nI k25_286)) fv gv) := hD1.weaken (fun _ _ _ h => hFc _ h)
          rcases q_290 with rfl | ⟨c_291, e_292, rfl, he_293, hc_294⟩
          · refine lv_istore_n (lv' := [(3, .int (-1)), (2, .int 2), (1, .int (nI c_8)), (0, .ref h0)]) hx hb dX9_test__100 rfl hl (by decide) rfl (fun ls hl => ?_)
            refine lv_iload_n hx hb dX9_test__101 rfl (lv_at hl 0 rfl) ?_
            refine lv_bipush (v := 9) hx hb dX9_test__102 (by decide) ?_
            refine lv_icmp_eq (tgt := 123) hx hb dX9_test__104 (by decide) (fun c_295 => absurd c_295 (by decide)) (fun c_295 => ?_)
            refine lv_iload_n hx hb dX9_test__107 rfl (lv_at hl 0 rfl) ?_
            refine lv_bipush (v := 10) hx hb dX9_test__108 (by decide) ?_
            refine lv_icmp_eq (tgt := 123) hx hb dX9_test__110 (by decide) (fun c_296 => absurd c_296 (by decide)) (fun c_296 => ?_)
            refine lv_aload_n hx hb dX9_test__113 rfl (lv_at hl 3 rfl) ?_
            refine lv_iconst (v := 1) hx hb dX9_test__114 (by decide) ?_
            refine lv_aload_n hx hb dX9_test__115 rfl (lv_at hl 3 rfl) ?_
            refine va_get (D := D) (ci := 9) (v := .int (nI k25_286)) (C := RX9) (T := TX9) (N := 44) hx hb hts hin9 hown hK hP 0 rfl rfl 25 (by decide) (hts (.fieldLink RX9 87 "HoneyHouseModel" "at" "I") (List.mem_of_getElem? (i := 1) rfl)) (fun _ h9 => h9) rfl dX9_test__116 ?_
            have hFc := free_all hD hS hA
            refine va_callv (va_runV (As := [.int 1, .int (nI k25_286)]) (rest := []) ⟨hx, hb, hml, hown, hts⟩ (m_blame l D h0 ad cs (upd iv 25 (nI k25_286)) fv gv n21 1 (nI k25_286) H.size h21 (by omega) (by omega)) (cwV 2 hts gX9_test__X9_blame rfl rfl rfl (by decide +kernel) ⟨Nat.le_of_ble_eq_true rfl, Nat.le_of_ble_eq_true rfl⟩) ⟨fun a U g mk q => by obtain ⟨q0, q1, qP, qK, qD⟩ := q; exact ⟨q0, q1, qP, va_K.moved (u := U) (U := U.calling g mk a) (Vm.Alike.refl U.vm) qK, qD⟩, va_recv hK hP (ci := 9) (q0 := 0) rfl rfl, fun U hU hW => ⟨rfl, by rw [hU], by rw [hU]; exact hP, va_K.moved hW.alike hK, hD.weaken (fun _ _ _ _ => trivial)⟩⟩ rfl rfl hl.1 rfl (lv_room (Nat.le_of_ble_eq_true rfl)) dX9_test__119 ⟨Nat.le_of_ble_eq_true rfl, Nat.le_of_ble_eq_true rfl⟩) hS (fun q _ h => hFc q h) hFc (fun u t H1 locs ht hvm w_298 hB hz1 hk1 hS => ?_)
            obtain ⟨k21_299, p22_300, q_301, q_302, hP1, hK1, hD1⟩ := hB
            rw [ht] at hP1
            have hK := va_K.moved hvm.symm hK1
            generalize H1 = H at hP1 hS ⊢
            have hP : va_P D vwCl (mw h0 ad cs (upd (upd (upd iv 21 (nI k21_299)) 22 p22_300) 25 (nI k25_286)) fv gv) H := hP1
            have hD : va_D A (mw h0 ad cs (upd (upd (upd iv 21 (nI k21_299)) 22 p22_300) 25 (nI k25_286)) fv gv) := hD1.weaken (fun _ _ _ h => hFc _ h)
            have hP : va_P D vwCl (mw h0 ad cs (upd (upd (upd (upd iv 21 (nI k21_299)) 22 p22_300) 25 (nI k25_286)) 30 (iv 30)) (uF fv 19 (fv 19)) gv) H := hP
            have hD : va_D A (mw h0 ad cs (upd (upd (upd (upd iv 21 (nI k21_299)) 22 p22_300) 25 (nI k25_286)) 30 (iv 30)) (uF fv 19 (fv 19)) gv) := hD
            have hP := hP
            rw [h30] at hP hD
            exact W.vret hx hb hr (fun t ht hW => ⟨⟨(), rfl, trivial, k21_299, p22_300, k25_286, n30, fv 19, by omega, by omega, by omega, Or.inl ⟨by omega, by omega, rfl⟩, by rw [ht]; exact hP, va_K.moved hW.alike hK, hD⟩, hS.F ht⟩) hS.2.2 dX9_test__122
          have he_293b : k25_286 ≤ e_292 ∧ e_292 ≤ n26 := ⟨he_293.1, he_293.2.1⟩
          refine lv_istore_n (lv' := [(3, .int (nI c_291)), (2, .int 2), (1, .int (nI c_8)), (0, .ref h0)]) hx hb dX9_test__100 rfl hl (by decide) rfl (fun ls hl => ?_)
          refine lv_iload_n hx hb dX9_test__101 rfl (lv_at hl 0 rfl) ?_
          refine lv_bipush (v := 9) hx hb dX9_test__102 (by decide) ?_
          refine lv_icmp_eq (tgt := 123) hx hb dX9_test__104 (by decide) (fun c_303 => ?_) (fun c_303 => ?_)
          · have d_304 := n_eq (a := c_291) (b := 9) (by omega) (by omega) c_303
            refine lv_aload_n hx hb dX9_test__123 rfl (lv_at hl 3 rfl) ?_
            refine lv_aload_n hx hb dX9_test__124 rfl (lv_at hl 3 rfl) ?_
            refine vp_callSi (W.runV (As := []) (rest := [.ref h0]) ⟨hx, hb, hml, hown, hts⟩ (m_wordEnd l D h0 ad cs (upd iv 25 (nI k25_286)) fv gv k25_286 n26  rfl h26 (by omega) (by omega)) (cwV 0 hts gX9_test__X9_wordEnd rfl rfl rfl (by decide +kernel) ⟨Nat.le_of_ble_eq_true rfl, Nat.le_of_ble_eq_true rfl⟩) ⟨fun a U g mk q => ⟨q.1, q.2.1, va_K.moved (u := U) (U := U.calling g mk a) (Vm.Alike.refl U.vm) q.2.2⟩, va_recv hK hP (ci := 9) (q0 := 0) rfl rfl, fun U hU hW => ⟨rfl, by rw [hU]; exact hP, va_K.moved hW.alike hK⟩⟩ rfl rfl hl.1 rfl (lv_room (Nat.le_of_ble_eq_true rfl)) dX9_test__125 ⟨Nat.le_of_ble_eq_true rfl, Nat.le_of_ble_eq_true rfl⟩) (fun r_305 k_306 => ?_)
            obtain ⟨e_307, rfl, he_308⟩ := k_306
            have hq_e_307 : e_307 = e_292 := he_308.uq he_293
            refine va_put (D := D) (ci := 9) (v := .int (nI e_307)) (ty := .int) (C := RX9) (T := TX9) (N := 44) hx hb hts hin9 tyX9 tyX9_ok nmX9 hown hK hP hD hS 0 rfl rfl 25 (by decide) (hts (.fieldLink RX9 87 "HoneyHouseModel" "at" "I") (List.mem_of_getElem? (i := 1) rfl)) (fun _ h9 => h9) rfl (tyX9_ok 25 (by decide)) rfl rfl (Nat.le_of_ble_eq_true rfl) dX9_test__128 (fun H locs hP hD hS => ?_)
            have hP : va_P D vwCl (mw h0 ad cs (upd iv 25 (nI e_307)) fv gv) H := hP
            have hD : va_D A (mw h0 ad cs (upd iv 25 (nI e_307)) fv gv) := hD
            refine lv_aload_n hx hb dX9_test__131 rfl (lv_at hl 3 rfl) ?_
            refine lv_sipush (v := 1000) hx hb dX9_test__132 (by decide) ?_
            have hFc := free_all hD hS hA
            refine va_calli (va_runV (As := [.int 1000]) (rest := []) ⟨hx, hb, hml, hown, hts⟩ (m_number l D h0 ad cs (upd iv 25 (nI e_307)) fv gv n21 e_307 n26 1000 H.size h21 rfl h26 (by omega) (by omega) (by omega) (by omega)) (cwV 1 hts gX9_test__X9_number rfl rfl rfl (by decide +kernel) ⟨Nat.le_of_ble_eq_true rfl, Nat.le_of_ble_eq_true rfl⟩) ⟨fun a U g mk q => by obtain ⟨q0, q1, qP, qK, qD⟩ := q; exact ⟨q0, q1, qP, va_K.moved (u := U) (U := U.calling g mk a) (Vm.Alike.refl U.vm) qK, qD⟩, va_recv hK hP (ci := 9) (q0 := 0) rfl rfl, fun U hU hW => ⟨rfl, by rw [hU], by rw [hU]; exact hP, va_K.moved hW.alike hK, hD.weaken (fun _ _ _ _ => trivial)⟩⟩ rfl rfl hl.1 rfl (lv_room (Nat.le_of_ble_eq_true rfl)) dX9_test__135 ⟨Nat.le_of_ble_eq_true rfl, Nat.le_of_ble_eq_true rfl⟩) hS (fun q _ h => hFc q h) hFc (fun r_309 u t H1 locs ht hvm w_310 hB hz1 hk1 hS => ?_)
            subst w_310
            obtain ⟨k21_311, p22_312, k25_313, q_314, q_315, q_316, q_317, hP1, hK1, hD1⟩ := hB
            rw [ht] at hP1
            have hK := va_K.moved hvm.symm hK1
            generalize H1 = H at hP1 hS ⊢
            have hP : va_P D vwCl (mw h0 ad cs (upd (upd (upd iv 21 (nI k21_311)) 22 p22_312) 25 (nI k25_313)) fv gv) H := hP1
            have hD : va_D A (mw h0 ad cs (upd (upd (upd iv 21 (nI k21_311)) 22 p22_312) 25 (nI k25_313)) fv gv) := hD1.weaken (fun _ _ _ h => hFc _ h)
            rcases q_317 with hp_318 | ⟨rfl, hg_320, v_321, hv_322, rfl⟩
            · refine lv_istore (lv' := [(4, .int r_309), (3, .int (nI c_291)), (2, .int 2), (1, .int (nI c_8)), (0, .ref h0)]) hx hb dX9_test__138 hl (by decide) rfl (fun ls hl => ?_)
              refine lv_aload_n hx hb dX9_test__140 rfl (lv_at hl 4 rfl) ?_
              refine va_get (D := D) (ci := 9) (v := .int (nI k21_311)) (C := RX9) (T := TX9) (N := 44) hx hb hts hin9 hown hK hP 0 rfl rfl 21 (by decide) (hts (.fieldLink RX9 74 "HoneyHouseModel" "faultKind" "I") (List.mem_of_getElem? (i := 2) rfl)) (fun _ h9 => h9) rfl dX9_test__141 ?_
              refine lv_if_le (tgt := 148) hx hb dX9_test__144 (by decide) (fun c_323 => absurd c_323 (nI_nle (n := k21_311) (by omega) (by omega))) (fun c_323 => ?_)
              have hP : va_P D vwCl (mw h0 ad cs (upd (upd (upd (upd iv 21 (nI k21_311)) 22 p22_312) 25 (nI k25_313)) 30 (iv 30)) (uF fv 19 (fv 19)) gv) H := hP
              have hD : va_D A (mw h0 ad cs (upd (upd (upd (upd iv 21 (nI k21_311)) 22 p22_312) 25 (nI k25_313)) 30 (iv 30)) (uF fv 19 (fv 19)) gv) := hD
              have hP := hP
              rw [h30] at hP hD
              exact W.vret hx hb hr (fun t ht hW => ⟨⟨(), rfl, trivial, k21_311, p22_312, k25_313, n30, fv 19, by omega, by omega, by omega, Or.inl ⟨by omega, by omega, rfl⟩, by rw [ht]; exact hP, va_K.moved hW.alike hK, hD⟩, hS.F ht⟩) hS.2.2 dX9_test__147
            refine lv_istore (lv' := [(4, .int (nI v_321)), (3, .int (nI c_291)), (2, .int 2), (1, .int (nI c_8)), (0, .ref h0)]) hx hb dX9_test__138 hl (by decide) rfl (fun ls hl => ?_)
            refine lv_aload_n hx hb dX9_test__140 rfl (lv_at hl 4 rfl) ?_
            refine va_get (D := D) (ci := 9) (v := .int (nI 0)) (C := RX9) (T := TX9) (N := 44) hx hb hts hin9 hown hK hP 0 rfl rfl 21 (by decide) (hts (.fieldLink RX9 74 "HoneyHouseModel" "faultKind" "I") (List.mem_of_getElem? (i := 2) rfl)) (fun _ h9 => h9) rfl dX9_test__141 ?_
            refine lv_if_le (tgt := 148) hx hb dX9_test__144 (by decide) (fun c_324 => ?_) (fun c_324 => absurd (by decide) c_324)
            refine lv_aload_n hx hb dX9_test__148 rfl (lv_at hl 4 rfl) ?_
            refine lv_bipush (v := 13) hx hb dX9_test__149 (by decide) ?_
            have hFc := free_all hD hS hA
            refine va_callv (va_runV (As := [.int 13]) (rest := []) ⟨hx, hb, hml, hown, hts⟩ (m_add l D h0 ad cs (upd (upd (upd iv 21 (nI 0)) 22 p22_312) 25 (nI k25_313)) fv gv n14 n30 13 H.size h14 h30 (by omega) (by omega)) (cwV 1 hts gX9_test__X9_add rfl rfl rfl (by decide +kernel) ⟨Nat.le_of_ble_eq_true rfl, Nat.le_of_ble_eq_true rfl⟩) ⟨fun a U g mk q => by obtain ⟨q0, q1, qP, qK, qD⟩ := q; exact ⟨q0, q1, qP, va_K.moved (u := U) (U := U.calling g mk a) (Vm.Alike.refl U.vm) qK, qD⟩, va_recv hK hP (ci := 9) (q0 := 0) rfl rfl, fun U hU hW => ⟨rfl, by rw [hU], by rw [hU]; exact hP, va_K.moved hW.alike hK, hD.weaken (fun _ _ _ _ => trivial)⟩⟩ rfl rfl hl.1 rfl (lv_room (Nat.le_of_ble_eq_true rfl)) dX9_test__151 ⟨Nat.le_of_ble_eq_true rfl, Nat.le_of_ble_eq_true rfl⟩) hS (fun q _ h => hFc q h) hFc (fun u t H1 locs ht hvm w_326 hB hz1 hk1 hS => ?_)
            obtain ⟨f19_327, q_328, hP1, hK1, hD1⟩ := hB
            replace q_328 : f19_327 = upd ((fv 19)) (200 * n14 + n30) 13 := q_328
            rw [ht] at hP1
            have hK := va_K.moved hvm.symm hK1
            generalize H1 = H at hP1 hS ⊢
            have hP : va_P D vwCl (mw h0 ad cs (upd (upd (upd (upd iv 21 (nI 0)) 22 p22_312) 25 (nI k25_313)) 30 (nI (n30 + 1))) (uF fv 19 f19_327) gv) H := hP1
            have hD : va_D A (mw h0 ad cs (upd (upd (upd (upd iv 21 (nI 0)) 22 p22_312) 25 (nI k25_313)) 30 (nI (n30 + 1))) (uF fv 19 f19_327) gv) := hD1.weaken (fun _ _ _ h => hFc _ h)
            refine lv_aload_n hx hb dX9_test__154 rfl (lv_at hl 4 rfl) ?_
            refine lv_iload_n hx hb dX9_test__155 rfl (lv_at hl 2 rfl) ?_
            have hFc := free_all hD hS hA
            refine va_callv (va_runV (As := [.int 2]) (rest := []) ⟨hx, hb, hml, hown, hts⟩ (m_add l D h0 ad cs (upd (upd (upd (upd iv 21 (nI 0)) 22 p22_312) 25 (nI k25_313)) 30 (nI (n30 + 1))) (uF fv 19 f19_327) gv n14 (n30 + 1) 2 H.size h14 rfl (by omega) (by omega)) (cwV 1 hts gX9_test__X9_add rfl rfl rfl (by decide +kernel) ⟨Nat.le_of_ble_eq_true rfl, Nat.le_of_ble_eq_true rfl⟩) ⟨fun a U g mk q => by obtain ⟨q0, q1, qP, qK, qD⟩ := q; exact ⟨q0, q1, qP, va_K.moved (u := U) (U := U.calling g mk a) (Vm.Alike.refl U.vm) qK, qD⟩, va_recv hK hP (ci := 9) (q0 := 0) rfl rfl, fun U hU hW => ⟨rfl, by rw [hU], by rw [hU]; exact hP, va_K.moved hW.alike hK, hD.weaken (fun _ _ _ _ => trivial)⟩⟩ rfl rfl hl.1 rfl (lv_room (Nat.le_of_ble_eq_true rfl)) dX9_test__156 ⟨Nat.le_of_ble_eq_true rfl, Nat.le_of_ble_eq_true rfl⟩) hS (fun q _ h => hFc q h) hFc (fun u t H1 locs ht hvm w_330 hB hz1 hk1 hS => ?_)
            obtain ⟨f19_331, q_332, hP1, hK1, hD1⟩ := hB
            replace q_332 : f19_331 = upd ((f19_327)) (200 * n14 + (n30 + 1)) 2 := q_332
            rw [ht] at hP1
            have hK := va_K.moved hvm.symm hK1
            generalize H1 = H at hP1 hS ⊢
            have hP : va_P D vwCl (mw h0 ad cs (upd (upd (upd (upd iv 21 (nI 0)) 22 p22_312) 25 (nI k25_313)) 30 (nI ((n30 + 1) + 1))) (uF fv 19 f19_331) gv) H := hP1
            have hD : va_D A (mw h0 ad cs (upd (upd (upd (upd iv 21 (nI 0)) 22 p22_312) 25 (nI k25_313)) 30 (nI ((n30 + 1) + 1))) (uF fv 19 f19_331) gv) := hD1.weaken (fun _ _ _ h => hFc _ h)
            refine lv_aload_n hx hb dX9_test__159 rfl (lv_at hl 4 rfl) ?_
            refine lv_iload_n hx hb dX9_test__160 rfl (lv_at hl 1 rfl) ?_
            have hFc := free_all hD hS hA
            refine va_callv (va_runV (As := [.int (nI c_291)]) (rest := []) ⟨hx, hb, hml, hown, hts⟩ (m_add l D h0 ad cs (upd (upd (upd (upd iv 21 (nI 0)) 22 p22_312) 25 (nI k25_313)) 30 (nI ((n30 + 1) + 1))) (uF fv 19 f19_331) gv n14 ((n30 + 1) + 1) (nI c_291) H.size h14 rfl (by omega) (by omega)) (cwV 1 hts gX9_test__X9_add rfl rfl rfl (by decide +kernel) ⟨Nat.le_of_ble_eq_true rfl, Nat.le_of_ble_eq_true rfl⟩) ⟨fun a U g mk q => by obtain ⟨q0, q1, qP, qK, qD⟩ := q; exact ⟨q0, q1, qP, va_K.moved (u := U) (U := U.calling g mk a) (Vm.Alike.refl U.vm) qK, qD⟩, va_recv hK hP (ci := 9) (q0 := 0) rfl rfl, fun U hU hW => ⟨rfl, by rw [hU], by rw [hU]; exact hP, va_K.moved hW.alike hK, hD.weaken (fun _ _ _ _ => trivial)⟩⟩ rfl rfl hl.1 rfl (lv_room (Nat.le_of_ble_eq_true rfl)) dX9_test__161 ⟨Nat.le_of_ble_eq_true rfl, Nat.le_of_ble_eq_true rfl⟩) hS (fun q _ h => hFc q h) hFc (fun u t H1 locs ht hvm w_334 hB hz1 hk1 hS => ?_)
            obtain ⟨f19_335, q_336, hP1, hK1, hD1⟩ := hB
            replace q_336 : f19_335 = upd ((f19_331)) (200 * n14 + ((n30 + 1) + 1)) (nI c_291) := q_336
            rw [ht] at hP1
            have hK := va_K.moved hvm.symm hK1
            generalize H1 = H at hP1 hS ⊢
            have hP : va_P D vwCl (mw h0 ad cs (upd (upd (upd (upd iv 21 (nI 0)) 22 p22_312) 25 (nI k25_313)) 30 (nI (((n30 + 1) + 1) + 1))) (uF fv 19 f19_335) gv) H := hP1
            have hD : va_D A (mw h0 ad cs (upd (upd (upd (upd iv 21 (nI 0)) 22 p22_312) 25 (nI k25_313)) 30 (nI (((n30 + 1) + 1) + 1))) (uF fv 19 f19_335) gv) := hD1.weaken (fun _ _ _ h => hFc _ h)
            refine lv_aload_n hx hb dX9_test__164 rfl (lv_at hl 4 rfl) ?_
            refine lv_iload hx hb dX9_test__165 (lv_at hl 0 rfl) ?_
            have hFc := free_all hD hS hA
            refine va_callv (va_runV (As := [.int (nI v_321)]) (rest := []) ⟨hx, hb, hml, hown, hts⟩ (m_add l D h0 ad cs (upd (upd (upd (upd iv 21 (nI 0)) 22 p22_312) 25 (nI k25_313)) 30 (nI (((n30 + 1) + 1) + 1))) (uF fv 19 f19_335) gv n14 (((n30 + 1) + 1) + 1) (nI v_321) H.size h14 rfl (by omega) (by omega)) (cwV 1 hts gX9_test__X9_add rfl rfl rfl (by decide +kernel) ⟨Nat.le_of_ble_eq_true rfl, Nat.le_of_ble_eq_true rfl⟩) ⟨fun a U g mk q => by obtain ⟨q0, q1, qP, qK, qD⟩ := q; exact ⟨q0, q1, qP, va_K.moved (u := U) (U := U.calling g mk a) (Vm.Alike.refl U.vm) qK, qD⟩, va_recv hK hP (ci := 9) (q0 := 0) rfl rfl, fun U hU hW => ⟨rfl, by rw [hU], by rw [hU]; exact hP, va_K.moved hW.alike hK, hD.weaken (fun _ _ _ _ => trivial)⟩⟩ rfl rfl hl.1 rfl (lv_room (Nat.le_of_ble_eq_true rfl)) dX9_test__167 ⟨Nat.le_of_ble_eq_true rfl, Nat.le_of_ble_eq_true rfl⟩) hS (fun q _ h => hFc q h) hFc (fun u t H1 locs ht hvm w_338 hB hz1 hk1 hS => ?_)
            obtain ⟨f19_339, q_340, hP1, hK1, hD1⟩ := hB
            replace q_340 : f19_339 = upd ((f19_335)) (200 * n14 + (((n30 + 1) + 1) + 1)) (nI v_321) := q_340
            rw [ht] at hP1
            have hK := va_K.moved hvm.symm hK1
            generalize H1 = H at hP1 hS ⊢
            have hP : va_P D vwCl (mw h0 ad cs (upd (upd (upd (upd iv 21 (nI 0)) 22 p22_312) 25 (nI k25_313)) 30 (nI ((((n30 + 1) + 1) + 1) + 1))) (uF fv 19 f19_339) gv) H := hP1
            have hD : va_D A (mw h0 ad cs (upd (upd (upd (upd iv 21 (nI 0)) 22 p22_312) 25 (nI k25_313)) 30 (nI ((((n30 + 1) + 1) + 1) + 1))) (uF fv 19 f19_339) gv) := hD1.weaken (fun _ _ _ h => hFc _ h)
            have hP : va_P D vwCl (mw h0 ad cs (upd (upd (upd (upd iv 21 (nI 0)) 22 p22_312) 25 (nI k25_313)) 30 (nI ((((n30 + 1) + 1) + 1) + 1))) (uF fv 19 f19_339) gv) H := hP
            have hD : va_D A (mw h0 ad cs (upd (upd (upd (upd iv 21 (nI 0)) 22 p22_312) 25 (nI k25_313)) 30 (nI ((((n30 + 1) + 1) + 1) + 1))) (uF fv 19 f19_339) gv) := hD
            exact W.vret hx hb hr (fun t ht hW => ⟨⟨(), rfl, trivial, 0, p22_312, k25_313, (((n30 + 1) + 1) + 1) + 1, f19_339, by omega, by omega, by omega, Or.inr ⟨by omega, by omega, by omega, fun i h9 => by rw [q_340, up_ne (by omega), q_336, up_ne (by omega), q_332, up_ne (by omega), q_328, up_ne (by omega)], by rw [q_340, up_ne (by omega), q_336, up_ne (by omega), q_332, up_ne (by omega), q_328, up_eq], by rw [q_340, up_ne (by omega), q_336, up_ne (by omega), q_332, up_eq]; exact ⟨2, by omega, rfl⟩⟩, by rw [ht]; exact hP, va_K.moved hW.alike hK, hD⟩, hS.F ht⟩) hS.2.2 dX9_test__170
          have d_341 := n_ne (a := c_291) (b := 9) (by omega) (by omega) c_303
          refine lv_iload_n hx hb dX9_test__107 rfl (lv_at hl 0 rfl) ?_
          refine lv_bipush (v := 10) hx hb dX9_test__108 (by decide) ?_
          refine lv_icmp_eq (tgt := 123) hx hb dX9_test__110 (by decide) (fun c_342 => ?_) (fun c_342 => ?_)
          · have d_343 := n_eq (a := c_291) (b := 10) (by omega) (by omega) c_342
            refine lv_aload_n hx hb dX9_test__123 rfl (lv_at hl 3 rfl) ?_
            refine lv_aload_n hx hb dX9_test__124 rfl (lv_at hl 3 rfl) ?_
            refine vp_callSi (W.runV (As := []) (rest := [.ref h0]) ⟨hx, hb, hml, hown, hts⟩ (m_wordEnd l D h0 ad cs (upd iv 25 (nI k25_286)) fv gv k25_286 n26  rfl h26 (by omega) (by omega)) (cwV 0 hts gX9_test__X9_wordEnd rfl rfl rfl (by decide +kernel) ⟨Nat.le_of_ble_eq_true rfl, Nat.le_of_ble_eq_true rfl⟩) ⟨fun a U g mk q => ⟨q.1, q.2.1, va_K.moved (u := U) (U := U.calling g mk a) (Vm.Alike.refl U.vm) q.2.2⟩, va_recv hK hP (ci := 9) (q0 := 0) rfl rfl, fun U hU hW => ⟨rfl, by rw [hU]; exact hP, va_K.moved hW.alike hK⟩⟩ rfl rfl hl.1 rfl (lv_room (Nat.le_of_ble_eq_true rfl)) dX9_test__125 ⟨Nat.le_of_ble_eq_true rfl, Nat.le_of_ble_eq_true rfl⟩) (fun r_344 k_345 => ?_)
            obtain ⟨e_346, rfl, he_347⟩ := k_345
            have hq_e_346 : e_346 = e_292 := he_347.uq he_293
            refine va_put (D := D) (ci := 9) (v := .int (nI e_346)) (ty := .int) (C := RX9) (T := TX9) (N := 44) hx hb hts hin9 tyX9 tyX9_ok nmX9 hown hK hP hD hS 0 rfl rfl 25 (by decide) (hts (.fieldLink RX9 87 "HoneyHouseModel" "at" "I") (List.mem_of_getElem? (i := 1) rfl)) (fun _ h9 => h9) rfl (tyX9_ok 25 (by decide)) rfl rfl (Nat.le_of_ble_eq_true rfl) dX9_test__128 (fun H locs hP hD hS => ?_)
            have hP : va_P D vwCl (mw h0 ad cs (upd iv 25 (nI e_346)) fv gv) H := hP
            have hD : va_D A (mw h0 ad cs (upd iv 25 (nI e_346)) fv gv) := hD
            refine lv_aload_n hx hb dX9_test__131 rfl (lv_at hl 3 rfl) ?_
            refine lv_sipush (v := 1000) hx hb dX9_test__132 (by decide) ?_
            have hFc := free_all hD hS hA
            refine va_calli (va_runV (As := [.int 1000]) (rest := []) ⟨hx, hb, hml, hown, hts⟩ (m_number l D h0 ad cs (upd iv 25 (nI e_346)) fv gv n21 e_346 n26 1000 H.size h21 rfl h26 (by omega) (by omega) (by omega) (by omega)) (cwV 1 hts gX9_test__X9_number rfl rfl rfl (by decide +kernel) ⟨Nat.le_of_ble_eq_true rfl, Nat.le_of_ble_eq_true rfl⟩) ⟨fun a U g mk q => by obtain ⟨q0, q1, qP, qK, qD⟩ := q; exact ⟨q0, q1, qP, va_K.moved (u := U) (U := U.calling g mk a) (Vm.Alike.refl U.vm) qK, qD⟩, va_recv hK hP (ci := 9) (q0 := 0) rfl rfl, fun U hU hW => ⟨rfl, by rw [hU], by rw [hU]; exact hP, va_K.moved hW.alike hK, hD.weaken (fun _ _ _ _ => trivial)⟩⟩ rfl rfl hl.1 rfl (lv_room (Nat.le_of_ble_eq_true rfl)) dX9_test__135 ⟨Nat.le_of_ble_eq_true rfl, Nat.le_of_ble_eq_true rfl⟩) hS (fun q _ h => hFc q h) hFc (fun r_348 u t H1 locs ht hvm w_349 hB hz1 hk1 hS => ?_)
            subst w_349
            obtain ⟨k21_350, p22_351, k25_352, q_353, q_354, q_355, q_356, hP1, hK1, hD1⟩ := hB
            rw [ht] at hP1
            have hK := va_K.moved hvm.symm hK1
            generalize H1 = H at hP1 hS ⊢
            have hP : va_P D vwCl (mw h0 ad cs (upd (upd (upd iv 21 (nI k21_350)) 22 p22_351) 25 (nI k25_352)) fv gv) H := hP1
            have hD : va_D A (mw h0 ad cs (upd (upd (upd iv 21 (nI k21_350)) 22 p22_351) 25 (nI k25_352)) fv gv) := hD1.weaken (fun _ _ _ h => hFc _ h)
            rcases q_356 with hp_357 | ⟨rfl, hg_359, v_360, hv_361, rfl⟩
            · refine lv_istore (lv' := [(4, .int r_348), (3, .int (nI c_291)), (2, .int 2), (1, .int (nI c_8)), (0, .ref h0)]) hx hb dX9_test__138 hl (by decide) rfl (fun ls hl => ?_)
              refine lv_aload_n hx hb dX9_test__140 rfl (lv_at hl 4 rfl) ?_
              refine va_get (D := D) (ci := 9) (v := .int (nI k21_350)) (C := RX9) (T := TX9) (N := 44) hx hb hts hin9 hown hK hP 0 rfl rfl 21 (by decide) (hts (.fieldLink RX9 74 "HoneyHouseModel" "faultKind" "I") (List.mem_of_getElem? (i := 2) rfl)) (fun _ h9 => h9) rfl dX9_test__141 ?_
              refine lv_if_le (tgt := 148) hx hb dX9_test__144 (by decide) (fun c_362 => absurd c_362 (nI_nle (n := k21_350) (by omega) (by omega))) (fun c_362 => ?_)
              have hP : va_P D vwCl (mw h0 ad cs (upd (upd (upd (upd iv 21 (nI k21_350)) 22 p22_351) 25 (nI k25_352)) 30 (iv 30)) (uF fv 19 (fv 19)) gv) H := hP
              have hD : va_D A (mw h0 ad cs (upd (upd (upd (upd iv 21 (nI k21_350)) 22 p22_351) 25 (nI k25_352)) 30 (iv 30)) (uF fv 19 (fv 19)) gv) := hD
              have hP := hP
              rw [h30] at hP hD
              exact W.vret hx hb hr (fun t ht hW => ⟨⟨(), rfl, trivial, k21_350, p22_351, k25_352, n30, fv 19, by omega, by omega, by omega, Or.inl ⟨by omega, by omega, rfl⟩, by rw [ht]; exact hP, va_K.moved hW.alike hK, hD⟩, hS.F ht⟩) hS.2.2 dX9_test__147
            refine lv_istore (lv' := [(4, .int (nI v_360)), (3, .int (nI c_291)), (2, .int 2), (1, .int (nI c_8)), (0, .ref h0)]) hx hb dX9_test__138 hl (by decide) rfl (fun ls hl => ?_)
            refine lv_aload_n hx hb dX9_test__140 rfl (lv_at hl 4 rfl) ?_
            refine va_get (D := D) (ci := 9) (v := .int (nI 0)) (C := RX9) (T := TX9) (N := 44) hx hb hts hin9 hown hK hP 0 rfl rfl 21 (by decide) (hts (.fieldLink RX9 74 "HoneyHouseModel" "faultKind" "I") (List.mem_of_getElem? (i := 2) rfl)) (fun _ h9 => h9) rfl dX9_test__141 ?_
            refine lv_if_le (tgt := 148) hx hb dX9_test__144 (by decide) (fun c_363 => ?_) (fun c_363 => absurd (by decide) c_363)
            refine lv_aload_n hx hb dX9_test__148 rfl (lv_at hl 4 rfl) ?_
            refine lv_bipush (v := 13) hx hb dX9_test__149 (by decide) ?_
            have hFc := free_all hD hS hA
            refine va_callv (va_runV (As := [.int 13]) (rest := []) ⟨hx, hb, hml, hown, hts⟩ (m_add l D h0 ad cs (upd (upd (upd iv 21 (nI 0)) 22 p22_351) 25 (nI k25_352)) fv gv n14 n30 13 H.size h14 h30 (by omega) (by omega)) (cwV 1 hts gX9_test__X9_add rfl rfl rfl (by decide +kernel) ⟨Nat.le_of_ble_eq_true rfl, Nat.le_of_ble_eq_true rfl⟩) ⟨fun a U g mk q => by obtain ⟨q0, q1, qP, qK, qD⟩ := q; exact ⟨q0, q1, qP, va_K.moved (u := U) (U := U.calling g mk a) (Vm.Alike.refl U.vm) qK, qD⟩, va_recv hK hP (ci := 9) (q0 := 0) rfl rfl, fun U hU hW => ⟨rfl, by rw [hU], by rw [hU]; exact hP, va_K.moved hW.alike hK, hD.weaken (fun _ _ _ _ => trivial)⟩⟩ rfl rfl hl.1 rfl (lv_room (Nat.le_of_ble_eq_true rfl)) dX9_test__151 ⟨Nat.le_of_ble_eq_true rfl, Nat.le_of_ble_eq_true rfl⟩) hS (fun q _ h => hFc q h) hFc (fun u t H1 locs ht hvm w_365 hB hz1 hk1 hS => ?_)
            obtain ⟨f19_366, q_367, hP1, hK1, hD1⟩ := hB
            replace q_367 : f19_366 = upd ((fv 19)) (200 * n14 + n30) 13 := q_367
            rw [ht] at hP1
            have hK := va_K.moved hvm.symm hK1
            generalize H1 = H at hP1 hS ⊢
            have hP : va_P D vwCl (mw h0 ad cs (upd (upd (upd (upd iv 21 (nI 0)) 22 p22_351) 25 (nI k25_352)) 30 (nI (n30 + 1))) (uF fv 19 f19_366) gv) H := hP1
            have hD : va_D A (mw h0 ad cs (upd (upd (upd (upd iv 21 (nI 0)) 22 p22_351) 25 (nI k25_352)) 30 (nI (n30 + 1))) (uF fv 19 f19_366) gv) := hD1.weaken (fun _ _ _ h => hFc _ h)
            refine lv_aload_n hx hb dX9_test__154 rfl (lv_at hl 4 rfl) ?_
            refine lv_iload_n hx hb dX9_test__155 rfl (lv_at hl 2 rfl) ?_
            have hFc := free_all hD hS hA
            refine va_callv (va_runV (As := [.int 2]) (rest := []) ⟨hx, hb, hml, hown, hts⟩ (m_add l D h0 ad cs (upd (upd (upd (upd iv 21 (nI 0)) 22 p22_351) 25 (nI k25_352)) 30 (nI (n30 + 1))) (uF fv 19 f19_366) gv n14 (n30 + 1) 2 H.size h14 rfl (by omega) (by omega)) (cwV 1 hts gX9_test__X9_add rfl rfl rfl (by decide +kernel) ⟨Nat.le_of_ble_eq_true rfl, Nat.le_of_ble_eq_true rfl⟩) ⟨fun a U g mk q => by obtain ⟨q0, q1, qP, qK, qD⟩ := q; exact ⟨q0, q1, qP, va_K.moved (u := U) (U := U.calling g mk a) (Vm.Alike.refl U.vm) qK, qD⟩, va_recv hK hP (ci := 9) (q0 := 0) rfl rfl, fun U hU hW => ⟨rfl, by rw [hU], by rw [hU]; exact hP, va_K.moved hW.alike hK, hD.weaken (fun _ _ _ _ => trivial)⟩⟩ rfl rfl hl.1 rfl (lv_room (Nat.le_of_ble_eq_true rfl)) dX9_test__156 ⟨Nat.le_of_ble_eq_true rfl, Nat.le_of_ble_eq_true rfl⟩) hS (fun q _ h => hFc q h) hFc (fun u t H1 locs ht hvm w_369 hB hz1 hk1 hS => ?_)
            obtain ⟨f19_370, q_371, hP1, hK1, hD1⟩ := hB
            replace q_371 : f19_370 = upd ((f19_366)) (200 * n14 + (n30 + 1)) 2 := q_371
            rw [ht] at hP1
            have hK := va_K.moved hvm.symm hK1
            generalize H1 = H at hP1 hS ⊢
            have hP : va_P D vwCl (mw h0 ad cs (upd (upd (upd (upd iv 21 (nI 0)) 22 p22_351) 25 (nI k25_352)) 30 (nI ((n30 + 1) + 1))) (uF fv 19 f19_370) gv) H := hP1
            have hD : va_D A (mw h0 ad cs (upd (upd (upd (upd iv 21 (nI 0)) 22 p22_351) 25 (nI k25_352)) 30 (nI ((n30 + 1) + 1))) (uF fv 19 f19_370) gv) := hD1.weaken (fun _ _ _ h => hFc _ h)
            refine lv_aload_n hx hb dX9_test__159 rfl (lv_at hl 4 rfl) ?_
            refine lv_iload_n hx hb dX9_test__160 rfl (lv_at hl 1 rfl) ?_
            have hFc := free_all hD hS hA
            refine va_callv (va_runV (As := [.int (nI c_291)]) (rest := []) ⟨hx, hb, hml, hown, hts⟩ (m_add l D h0 ad cs (upd (upd (upd (upd iv 21 (nI 0)) 22 p22_351) 25 (nI k25_352)) 30 (nI ((n30 + 1) + 1))) (uF fv 19 f19_370) gv n14 ((n30 + 1) + 1) (nI c_291) H.size h14 rfl (by omega) (by omega)) (cwV 1 hts gX9_test__X9_add rfl rfl rfl (by decide +kernel) ⟨Nat.le_of_ble_eq_true rfl, Nat.le_of_ble_eq_true rfl⟩) ⟨fun a U g mk q => by obtain ⟨q0, q1, qP, qK, qD⟩ := q; exact ⟨q0, q1, qP, va_K.moved (u := U) (U := U.calling g mk a) (Vm.Alike.refl U.vm) qK, qD⟩, va_recv hK hP (ci := 9) (q0 := 0) rfl rfl, fun U hU hW => ⟨rfl, by rw [hU], by rw [hU]; exact hP, va_K.moved hW.alike hK, hD.weaken (fun _ _ _ _ => trivial)⟩⟩ rfl rfl hl.1 rfl (lv_room (Nat.le_of_ble_eq_true rfl)) dX9_test__161 ⟨Nat.le_of_ble_eq_true rfl, Nat.le_of_ble_eq_true rfl⟩) hS (fun q _ h => hFc q h) hFc (fun u t H1 locs ht hvm w_373 hB hz1 hk1 hS => ?_)
            obtain ⟨f19_374, q_375, hP1, hK1, hD1⟩ := hB
            replace q_375 : f19_374 = upd ((f19_370)) (200 * n14 + ((n30 + 1) + 1)) (nI c_291) := q_375
            rw [ht] at hP1
            have hK := va_K.moved hvm.symm hK1
            generalize H1 = H at hP1 hS ⊢
            have hP : va_P D vwCl (mw h0 ad cs (upd (upd (upd (upd iv 21 (nI 0)) 22 p22_351) 25 (nI k25_352)) 30 (nI (((n30 + 1) + 1) + 1))) (uF fv 19 f19_374) gv) H := hP1
            have hD : va_D A (mw h0 ad cs (upd (upd (upd (upd iv 21 (nI 0)) 22 p22_351) 25 (nI k25_352)) 30 (nI (((n30 + 1) + 1) + 1))) (uF fv 19 f19_374) gv) := hD1.weaken (fun _ _ _ h => hFc _ h)
            refine lv_aload_n hx hb dX9_test__164 rfl (lv_at hl 4 rfl) ?_
            refine lv_iload hx hb dX9_test__165 (lv_at hl 0 rfl) ?_
            have hFc := free_all hD hS hA
            refine va_callv (va_runV (As := [.int (nI v_360)]) (rest := []) ⟨hx, hb, hml, hown, hts⟩ (m_add l D h0 ad cs (upd (upd (upd (upd iv 21 (nI 0)) 22 p22_351) 25 (nI k25_352)) 30 (nI (((n30 + 1) + 1) + 1))) (uF fv 19 f19_374) gv n14 (((n30 + 1) + 1) + 1) (nI v_360) H.size h14 rfl (by omega) (by omega)) (cwV 1 hts gX9_test__X9_add rfl rfl rfl (by decide +kernel) ⟨Nat.le_of_ble_eq_true rfl, Nat.le_of_ble_eq_true rfl⟩) ⟨fun a U g mk q => by obtain ⟨q0, q1, qP, qK, qD⟩ := q; exact ⟨q0, q1, qP, va_K.moved (u := U) (U := U.calling g mk a) (Vm.Alike.refl U.vm) qK, qD⟩, va_recv hK hP (ci := 9) (q0 := 0) rfl rfl, fun U hU hW => ⟨rfl, by rw [hU], by rw [hU]; exact hP, va_K.moved hW.alike hK, hD.weaken (fun _ _ _ _ => trivial)⟩⟩ rfl rfl hl.1 rfl (lv_room (Nat.le_of_ble_eq_true rfl)) dX9_test__167 ⟨Nat.le_of_ble_eq_true rfl, Nat.le_of_ble_eq_true rfl⟩) hS (fun q _ h => hFc q h) hFc (fun u t H1 locs ht hvm w_377 hB hz1 hk1 hS => ?_)
            obtain ⟨f19_378, q_379, hP1, hK1, hD1⟩ := hB
            replace q_379 : f19_378 = upd ((f19_374)) (200 * n14 + (((n30 + 1) + 1) + 1)) (nI v_360) := q_379
            rw [ht] at hP1
            have hK := va_K.moved hvm.symm hK1
            generalize H1 = H at hP1 hS ⊢
            have hP : va_P D vwCl (mw h0 ad cs (upd (upd (upd (upd iv 21 (nI 0)) 22 p22_351) 25 (nI k25_352)) 30 (nI ((((n30 + 1) + 1) + 1) + 1))) (uF fv 19 f19_378) gv) H := hP1
            have hD : va_D A (mw h0 ad cs (upd (upd (upd (upd iv 21 (nI 0)) 22 p22_351) 25 (nI k25_352)) 30 (nI ((((n30 + 1) + 1) + 1) + 1))) (uF fv 19 f19_378) gv) := hD1.weaken (fun _ _ _ h => hFc _ h)
            have hP : va_P D vwCl (mw h0 ad cs (upd (upd (upd (upd iv 21 (nI 0)) 22 p22_351) 25 (nI k25_352)) 30 (nI ((((n30 + 1) + 1) + 1) + 1))) (uF fv 19 f19_378) gv) H := hP
            have hD : va_D A (mw h0 ad cs (upd (upd (upd (upd iv 21 (nI 0)) 22 p22_351) 25 (nI k25_352)) 30 (nI ((((n30 + 1) + 1) + 1) + 1))) (uF fv 19 f19_378) gv) := hD
            exact W.vret hx hb hr (fun t ht hW => ⟨⟨(), rfl, trivial, 0, p22_351, k25_352, (((n30 + 1) + 1) + 1) + 1, f19_378, by omega, by omega, by omega, Or.inr ⟨by omega, by omega, by omega, fun i h9 => by rw [q_379, up_ne (by omega), q_375, up_ne (by omega), q_371, up_ne (by omega), q_367, up_ne (by omega)], by rw [q_379, up_ne (by omega), q_375, up_ne (by omega), q_371, up_ne (by omega), q_367, up_eq], by rw [q_379, up_ne (by omega), q_375, up_ne (by omega), q_371, up_eq]; exact ⟨2, by omega, rfl⟩⟩, by rw [ht]; exact hP, va_K.moved hW.alike hK, hD⟩, hS.F ht⟩) hS.2.2 dX9_test__170
          have d_380 := n_ne (a := c_291) (b := 10) (by omega) (by omega) c_342
          refine lv_aload_n hx hb dX9_test__113 rfl (lv_at hl 3 rfl) ?_
          refine lv_iconst (v := 1) hx hb dX9_test__114 (by decide) ?_
          refine lv_aload_n hx hb dX9_test__115 rfl (lv_at hl 3 rfl) ?_
          refine va_get (D := D) (ci := 9) (v := .int (nI k25_286)) (C := RX9) (T := TX9) (N := 44) hx hb hts hin9 hown hK hP 0 rfl rfl 25 (by decide) (hts (.fieldLink RX9 87 "HoneyHouseModel" "at" "I") (List.mem_of_getElem? (i := 1) rfl)) (fun _ h9 => h9) rfl dX9_test__116 ?_
          have hFc := free_all hD hS hA
          refine va_callv (va_runV (As := [.int 1, .int (nI k25_286)]) (rest := []) ⟨hx, hb, hml, hown, hts⟩ (m_blame l D h0 ad cs (upd iv 25 (nI k25_286)) fv gv n21 1 (nI k25_286) H.size h21 (by omega) (by omega)) (cwV 2 hts gX9_test__X9_blame rfl rfl rfl (by decide +kernel) ⟨Nat.le_of_ble_eq_true rfl, Nat.le_of_ble_eq_true rfl⟩) ⟨fun a U g mk q => by obtain ⟨q0, q1, qP, qK, qD⟩ := q; exact ⟨q0, q1, qP, va_K.moved (u := U) (U := U.calling g mk a) (Vm.Alike.refl U.vm) qK, qD⟩, va_recv hK hP (ci := 9) (q0 := 0) rfl rfl, fun U hU hW => ⟨rfl, by rw [hU], by rw [hU]; exact hP, va_K.moved hW.alike hK, hD.weaken (fun _ _ _ _ => trivial)⟩⟩ rfl rfl hl.1 rfl (lv_room (Nat.le_of_ble_eq_true rfl)) dX9_test__119 ⟨Nat.le_of_ble_eq_true rfl, Nat.le_of_ble_eq_true rfl⟩) hS (fun q _ h => hFc q h) hFc (fun u t H1 locs ht hvm w_382 hB hz1 hk1 hS => ?_)
          obtain ⟨k21_383, p22_384, q_385, q_386, hP1, hK1, hD1⟩ := hB
          rw [ht] at hP1
          have hK := va_K.moved hvm.symm hK1
          generalize H1 = H at hP1 hS ⊢
          have hP : va_P D vwCl (mw h0 ad cs (upd (upd (upd iv 21 (nI k21_383)) 22 p22_384) 25 (nI k25_286)) fv gv) H := hP1
          have hD : va_D A (mw h0 ad cs (upd (upd (upd iv 21 (nI k21_383)) 22 p22_384) 25 (nI k25_286)) fv gv) := hD1.weaken (fun _ _ _ h => hFc _ h)
          have hP : va_P D vwCl (mw h0 ad cs (upd (upd (upd (upd iv 21 (nI k21_383)) 22 p22_384) 25 (nI k25_286)) 30 (iv 30)) (uF fv 19 (fv 19)) gv) H := hP
          have hD : va_D A (mw h0 ad cs (upd (upd (upd (upd iv 21 (nI k21_383)) 22 p22_384) 25 (nI k25_286)) 30 (iv 30)) (uF fv 19 (fv 19)) gv) := hD
          have hP := hP
          rw [h30] at hP hD
          exact W.vret hx hb hr (fun t ht hW => ⟨⟨(), rfl, trivial, k21_383, p22_384, k25_286, n30, fv 19, by omega, by omega, by omega, Or.inl ⟨by omega, by omega, rfl⟩, by rw [ht]; exact hP, va_K.moved hW.alike hK, hD⟩, hS.F ht⟩) hS.2.2 dX9_test__122
        have d_387 := n_nle (a := n21) (b := 0) (by omega) (by omega) c_282
        have hP : va_P D vwCl (mw h0 ad cs (upd (upd (upd (upd iv 21 (iv 21)) 22 (iv 22)) 25 (nI e_32)) 30 (iv 30)) (uF fv 19 (fv 19)) gv) H := hP
        have hD : va_D A (mw h0 ad cs (upd (upd (upd (upd iv 21 (iv 21)) 22 (iv 22)) 25 (nI e_32)) 30 (iv 30)) (uF fv 19 (fv 19)) gv) := hD
        have hP := hP
        have hP := hP
        rw [h21, h30] at hP hD
        exact W.vret hx hb hr (fun t ht hW => ⟨⟨(), rfl, trivial, n21, iv 22, e_32, n30, fv 19, by omega, by omega, by omega, Or.inl ⟨by omega, by omega, rfl⟩, by rw [ht]; exact hP, va_K.moved hW.alike hK, hD⟩, hS.F ht⟩) hS.2.2 dX9_test__95
      have d_388 := n_eq (a := c_8) (b := 5) (by omega) (by omega) c_36
      refine lv_iconst (v := 1) hx hb dX9_test__48 (by decide) ?_
      refine lv_goto (tgt := 87) hx hb dX9_test__49 (by decide) ?_
      refine lv_istore_n (lv' := [(2, .int 1), (1, .int (nI c_8)), (0, .ref h0)]) hx hb dX9_test__87 rfl hl (by decide) rfl (fun ls hl => ?_)
      refine lv_aload_n hx hb dX9_test__88 rfl (lv_at hl 2 rfl) ?_
      refine va_get (D := D) (ci := 9) (v := .int (iv 21)) (C := RX9) (T := TX9) (N := 44) hx hb hts hin9 hown hK hP 0 rfl rfl 21 (by decide) (hts (.fieldLink RX9 74 "HoneyHouseModel" "faultKind" "I") (List.mem_of_getElem? (i := 2) rfl)) (fun _ h9 => h9) rfl dX9_test__89 ?_
      refine tp_i (y := nI n21) (h21) ?_
      refine lv_if_le (tgt := 96) hx hb dX9_test__92 (by decide) (fun c_389 => ?_) (fun c_389 => ?_)
      · have d_390 := n_le (a := n21) (b := 0) (by omega) (by omega) c_389
        refine lv_aload_n hx hb dX9_test__96 rfl (lv_at hl 2 rfl) ?_
        have hFc := free_all hD hS hA
        refine va_calli (va_runV (As := []) (rest := []) ⟨hx, hb, hml, hown, hts⟩ (m_peek l D h0 ad cs (upd iv 25 (nI e_32)) fv gv e_32 n26  H.size rfl h26 (by omega) (by omega)) (cwV 0 hts gX9_test__X9_peek rfl rfl rfl (by decide +kernel) ⟨Nat.le_of_ble_eq_true rfl, Nat.le_of_ble_eq_true rfl⟩) ⟨fun a U g mk q => by obtain ⟨q0, q1, qP, qK, qD⟩ := q; exact ⟨q0, q1, qP, va_K.moved (u := U) (U := U.calling g mk a) (Vm.Alike.refl U.vm) qK, qD⟩, va_recv hK hP (ci := 9) (q0 := 0) rfl rfl, fun U hU hW => ⟨rfl, by rw [hU], by rw [hU]; exact hP, va_K.moved hW.alike hK, hD.weaken (fun _ _ _ _ => trivial)⟩⟩ rfl rfl hl.1 rfl (lv_room (Nat.le_of_ble_eq_true rfl)) dX9_test__97 ⟨Nat.le_of_ble_eq_true rfl, Nat.le_of_ble_eq_true rfl⟩) hS (fun q _ h => hFc q h) hFc (fun r_391 u t H1 locs ht hvm w_392 hB hz1 hk1 hS => ?_)
        subst w_392
        obtain ⟨k25_393, q_394, q_395, q_396, q_397, hP1, hK1, hD1⟩ := hB
        replace q_396 : (e_32 = n26 ∨ ¬ blk ((fv 0) e_32)) → k25_393 = e_32 := q_396
        replace q_397 : r_391 = (-1) ∨ ∃ c e : Nat, r_391 = nI c ∧ isE ((fv 0)) n26 k25_393 e ∧ ((c = 0 ∧ e = k25_393 + 4) ∨ (c = 1 ∧ e = k25_393 + 2) ∨ (c = 2 ∧ e = k25_393 + 3) ∨ (c = 3 ∧ e = k25_393 + 3) ∨ (c = 4 ∧ e = k25_393 + 5) ∨ (c = 5 ∧ e = k25_393 + 6) ∨ (c = 6 ∧ e = k25_393 + 4) ∨ (c = 7 ∧ e = k25_393 + 6) ∨ (c = 8 ∧ e = k25_393 + 4) ∨ (c = 9 ∧ e = k25_393 + 3) ∨ (c = 10 ∧ e = k25_393 + 3) ∨ c = 11) := q_397
        rw [ht] at hP1
        have hK := va_K.moved hvm.symm hK1
        generalize H1 = H at hP1 hS ⊢
        have hP : va_P D vwCl (mw h0 ad cs (upd iv 25 (nI k25_393)) fv gv) H := hP1
        have hD : va_D A (mw h0 ad cs (upd iv 25 (nI k25_393)) fv gv) := hD1.weaken (fun _ _ _ h => hFc _ h)
        rcases q_397 with rfl | ⟨c_398, e_399, rfl, he_400, hc_401⟩
        · refine lv_istore_n (lv' := [(3, .int (-1)), (2, .int 1), (1, .int (nI c_8)), (0, .ref h0)]) hx hb dX9_test__100 rfl hl (by decide) rfl (fun ls hl => ?_)
          refine lv_iload_n hx hb dX9_test__101 rfl (lv_at hl 0 rfl) ?_
          refine lv_bipush (v := 9) hx hb dX9_test__102 (by decide) ?_
          refine lv_icmp_eq (tgt := 123) hx hb dX9_test__104 (by decide) (fun c_402 => absurd c_402 (by decide)) (fun c_402 => ?_)
          refine lv_iload_n hx hb dX9_test__107 rfl (lv_at hl 0 rfl) ?_
          refine lv_bipush (v := 10) hx hb dX9_test__108 (by decide) ?_
          refine lv_icmp_eq (tgt := 123) hx hb dX9_test__110 (by decide) (fun c_403 => absurd c_403 (by decide)) (fun c_403 => ?_)
          refine lv_aload_n hx hb dX9_test__113 rfl (lv_at hl 3 rfl) ?_
          refine lv_iconst (v := 1) hx hb dX9_test__114 (by decide) ?_
          refine lv_aload_n hx hb dX9_test__115 rfl (lv_at hl 3 rfl) ?_
          refine va_get (D := D) (ci := 9) (v := .int (nI k25_393)) (C := RX9) (T := TX9) (N := 44) hx hb hts hin9 hown hK hP 0 rfl rfl 25 (by decide) (hts (.fieldLink RX9 87 "HoneyHouseModel" "at" "I") (List.mem_of_getElem? (i := 1) rfl)) (fun _ h9 => h9) rfl dX9_test__116 ?_
          have hFc := free_all hD hS hA
          refine va_callv (va_runV (As := [.int 1, .int (nI k25_393)]) (rest := []) ⟨hx, hb, hml, hown, hts⟩ (m_blame l D h0 ad cs (upd iv 25 (nI k25_393)) fv gv n21 1 (nI k25_393) H.size h21 (by omega) (by omega)) (cwV 2 hts gX9_test__X9_blame rfl rfl rfl (by decide +kernel) ⟨Nat.le_of_ble_eq_true rfl, Nat.le_of_ble_eq_true rfl⟩) ⟨fun a U g mk q => by obtain ⟨q0, q1, qP, qK, qD⟩ := q; exact ⟨q0, q1, qP, va_K.moved (u := U) (U := U.calling g mk a) (Vm.Alike.refl U.vm) qK, qD⟩, va_recv hK hP (ci := 9) (q0 := 0) rfl rfl, fun U hU hW => ⟨rfl, by rw [hU], by rw [hU]; exact hP, va_K.moved hW.alike hK, hD.weaken (fun _ _ _ _ => trivial)⟩⟩ rfl rfl hl.1 rfl (lv_room (Nat.le_of_ble_eq_true rfl)) dX9_test__119 ⟨Nat.le_of_ble_eq_true rfl, Nat.le_of_ble_eq_true rfl⟩) hS (fun q _ h => hFc q h) hFc (fun u t H1 locs ht hvm w_405 hB hz1 hk1 hS => ?_)
          obtain ⟨k21_406, p22_407, q_408, q_409, hP1, hK1, hD1⟩ := hB
          rw [ht] at hP1
          have hK := va_K.moved hvm.symm hK1
          generalize H1 = H at hP1 hS ⊢
          have hP : va_P D vwCl (mw h0 ad cs (upd (upd (upd iv 21 (nI k21_406)) 22 p22_407) 25 (nI k25_393)) fv gv) H := hP1
          have hD : va_D A (mw h0 ad cs (upd (upd (upd iv 21 (nI k21_406)) 22 p22_407) 25 (nI k25_393)) fv gv) := hD1.weaken (fun _ _ _ h => hFc _ h)
          have hP : va_P D vwCl (mw h0 ad cs (upd (upd (upd (upd iv 21 (nI k21_406)) 22 p22_407) 25 (nI k25_393)) 30 (iv 30)) (uF fv 19 (fv 19)) gv) H := hP
          have hD : va_D A (mw h0 ad cs (upd (upd (upd (upd iv 21 (nI k21_406)) 22 p22_407) 25 (nI k25_393)) 30 (iv 30)) (uF fv 19 (fv 19)) gv) := hD
          have hP := hP
          rw [h30] at hP hD
          exact W.vret hx hb hr (fun t ht hW => ⟨⟨(), rfl, trivial, k21_406, p22_407, k25_393, n30, fv 19, by omega, by omega, by omega, Or.inl ⟨by omega, by omega, rfl⟩, by rw [ht]; exact hP, va_K.moved hW.alike hK, hD⟩, hS.F ht⟩) hS.2.2 dX9_test__122
        have he_400b : k25_393 ≤ e_399 ∧ e_399 ≤ n26 := ⟨he_400.1, he_400.2.1⟩
        refine lv_istore_n (lv' := [(3, .int (nI c_398)), (2, .int 1), (1, .int (nI c_8)), (0, .ref h0)]) hx hb dX9_test__100 rfl hl (by decide) rfl (fun ls hl => ?_)
        refine lv_iload_n hx hb dX9_test__101 rfl (lv_at hl 0 rfl) ?_
        refine lv_bipush (v := 9) hx hb dX9_test__102 (by decide) ?_
        refine lv_icmp_eq (tgt := 123) hx hb dX9_test__104 (by decide) (fun c_410 => ?_) (fun c_410 => ?_)
        · have d_411 := n_eq (a := c_398) (b := 9) (by omega) (by omega) c_410
          refine lv_aload_n hx hb dX9_test__123 rfl (lv_at hl 3 rfl) ?_
          refine lv_aload_n hx hb dX9_test__124 rfl (lv_at hl 3 rfl) ?_
          refine vp_callSi (W.runV (As := []) (rest := [.ref h0]) ⟨hx, hb, hml, hown, hts⟩ (m_wordEnd l D h0 ad cs (upd iv 25 (nI k25_393)) fv gv k25_393 n26  rfl h26 (by omega) (by omega)) (cwV 0 hts gX9_test__X9_wordEnd rfl rfl rfl (by decide +kernel) ⟨Nat.le_of_ble_eq_true rfl, Nat.le_of_ble_eq_true rfl⟩) ⟨fun a U g mk q => ⟨q.1, q.2.1, va_K.moved (u := U) (U := U.calling g mk a) (Vm.Alike.refl U.vm) q.2.2⟩, va_recv hK hP (ci := 9) (q0 := 0) rfl rfl, fun U hU hW => ⟨rfl, by rw [hU]; exact hP, va_K.moved hW.alike hK⟩⟩ rfl rfl hl.1 rfl (lv_room (Nat.le_of_ble_eq_true rfl)) dX9_test__125 ⟨Nat.le_of_ble_eq_true rfl, Nat.le_of_ble_eq_true rfl⟩) (fun r_412 k_413 => ?_)
          obtain ⟨e_414, rfl, he_415⟩ := k_413
          have hq_e_414 : e_414 = e_399 := he_415.uq he_400
          refine va_put (D := D) (ci := 9) (v := .int (nI e_414)) (ty := .int) (C := RX9) (T := TX9) (N := 44) hx hb hts hin9 tyX9 tyX9_ok nmX9 hown hK hP hD hS 0 rfl rfl 25 (by decide) (hts (.fieldLink RX9 87 "HoneyHouseModel" "at" "I") (List.mem_of_getElem? (i := 1) rfl)) (fun _ h9 => h9) rfl (tyX9_ok 25 (by decide)) rfl rfl (Nat.le_of_ble_eq_true rfl) dX9_test__128 (fun H locs hP hD hS => ?_)
          have hP : va_P D vwCl (mw h0 ad cs (upd iv 25 (nI e_414)) fv gv) H := hP
          have hD : va_D A (mw h0 ad cs (upd iv 25 (nI e_414)) fv gv) := hD
          refine lv_aload_n hx hb dX9_test__131 rfl (lv_at hl 3 rfl) ?_
          refine lv_sipush (v := 1000) hx hb dX9_test__132 (by decide) ?_
          have hFc := free_all hD hS hA
          refine va_calli (va_runV (As := [.int 1000]) (rest := []) ⟨hx, hb, hml, hown, hts⟩ (m_number l D h0 ad cs (upd iv 25 (nI e_414)) fv gv n21 e_414 n26 1000 H.size h21 rfl h26 (by omega) (by omega) (by omega) (by omega)) (cwV 1 hts gX9_test__X9_number rfl rfl rfl (by decide +kernel) ⟨Nat.le_of_ble_eq_true rfl, Nat.le_of_ble_eq_true rfl⟩) ⟨fun a U g mk q => by obtain ⟨q0, q1, qP, qK, qD⟩ := q; exact ⟨q0, q1, qP, va_K.moved (u := U) (U := U.calling g mk a) (Vm.Alike.refl U.vm) qK, qD⟩, va_recv hK hP (ci := 9) (q0 := 0) rfl rfl, fun U hU hW => ⟨rfl, by rw [hU], by rw [hU]; exact hP, va_K.moved hW.alike hK, hD.weaken (fun _ _ _ _ => trivial)⟩⟩ rfl rfl hl.1 rfl (lv_room (Nat.le_of_ble_eq_true rfl)) dX9_test__135 ⟨Nat.le_of_ble_eq_true rfl, Nat.le_of_ble_eq_true rfl⟩) hS (fun q _ h => hFc q h) hFc (fun r_416 u t H1 locs ht hvm w_417 hB hz1 hk1 hS => ?_)
          subst w_417
          obtain ⟨k21_418, p22_419, k25_420, q_421, q_422, q_423, q_424, hP1, hK1, hD1⟩ := hB
          rw [ht] at hP1
          have hK := va_K.moved hvm.symm hK1
          generalize H1 = H at hP1 hS ⊢
          have hP : va_P D vwCl (mw h0 ad cs (upd (upd (upd iv 21 (nI k21_418)) 22 p22_419) 25 (nI k25_420)) fv gv) H := hP1
          have hD : va_D A (mw h0 ad cs (upd (upd (upd iv 21 (nI k21_418)) 22 p22_419) 25 (nI k25_420)) fv gv) := hD1.weaken (fun _ _ _ h => hFc _ h)
          rcases q_424 with hp_425 | ⟨rfl, hg_427, v_428, hv_429, rfl⟩
          · refine lv_istore (lv' := [(4, .int r_416), (3, .int (nI c_398)), (2, .int 1), (1, .int (nI c_8)), (0, .ref h0)]) hx hb dX9_test__138 hl (by decide) rfl (fun ls hl => ?_)
            refine lv_aload_n hx hb dX9_test__140 rfl (lv_at hl 4 rfl) ?_
            refine va_get (D := D) (ci := 9) (v := .int (nI k21_418)) (C := RX9) (T := TX9) (N := 44) hx hb hts hin9 hown hK hP 0 rfl rfl 21 (by decide) (hts (.fieldLink RX9 74 "HoneyHouseModel" "faultKind" "I") (List.mem_of_getElem? (i := 2) rfl)) (fun _ h9 => h9) rfl dX9_test__141 ?_
            refine lv_if_le (tgt := 148) hx hb dX9_test__144 (by decide) (fun c_430 => absurd c_430 (nI_nle (n := k21_418) (by omega) (by omega))) (fun c_430 => ?_)
            have hP : va_P D vwCl (mw h0 ad cs (upd (upd (upd (upd iv 21 (nI k21_418)) 22 p22_419) 25 (nI k25_420)) 30 (iv 30)) (uF fv 19 (fv 19)) gv) H := hP
            have hD : va_D A (mw h0 ad cs (upd (upd (upd (upd iv 21 (nI k21_418)) 22 p22_419) 25 (nI k25_420)) 30 (iv 30)) (uF fv 19 (fv 19)) gv) := hD
            have hP := hP
            rw [h30] at hP hD
            exact W.vret hx hb hr (fun t ht hW => ⟨⟨(), rfl, trivial, k21_418, p22_419, k25_420, n30, fv 19, by omega, by omega, by omega, Or.inl ⟨by omega, by omega, rfl⟩, by rw [ht]; exact hP, va_K.moved hW.alike hK, hD⟩, hS.F ht⟩) hS.2.2 dX9_test__147
          refine lv_istore (lv' := [(4, .int (nI v_428)), (3, .int (nI c_398)), (2, .int 1), (1, .int (nI c_8)), (0, .ref h0)]) hx hb dX9_test__138 hl (by decide) rfl (fun ls hl => ?_)
          refine lv_aload_n hx hb dX9_test__140 rfl (lv_at hl 4 rfl) ?_
          refine va_get (D := D) (ci := 9) (v := .int (nI 0)) (C := RX9) (T := TX9) (N := 44) hx hb hts hin9 hown hK hP 0 rfl rfl 21 (by decide) (hts (.fieldLink RX9 74 "HoneyHouseModel" "faultKind" "I") (List.mem_of_getElem? (i := 2) rfl)) (fun _ h9 => h9) rfl dX9_test__141 ?_
          refine lv_if_le (tgt := 148) hx hb dX9_test__144 (by decide) (fun c_431 => ?_) (fun c_431 => absurd (by decide) c_431)
          refine lv_aload_n hx hb dX9_test__148 rfl (lv_at hl 4 rfl) ?_
          refine lv_bipush (v := 13) hx hb dX9_test__149 (by decide) ?_
          have hFc := free_all hD hS hA
          refine va_callv (va_runV (As := [.int 13]) (rest := []) ⟨hx, hb, hml, hown, hts⟩ (m_add l D h0 ad cs (upd (upd (upd iv 21 (nI 0)) 22 p22_419) 25 (nI k25_420)) fv gv n14 n30 13 H.size h14 h30 (by omega) (by omega)) (cwV 1 hts gX9_test__X9_add rfl rfl rfl (by decide +kernel) ⟨Nat.le_of_ble_eq_true rfl, Nat.le_of_ble_eq_true rfl⟩) ⟨fun a U g mk q => by obtain ⟨q0, q1, qP, qK, qD⟩ := q; exact ⟨q0, q1, qP, va_K.moved (u := U) (U := U.calling g mk a) (Vm.Alike.refl U.vm) qK, qD⟩, va_recv hK hP (ci := 9) (q0 := 0) rfl rfl, fun U hU hW => ⟨rfl, by rw [hU], by rw [hU]; exact hP, va_K.moved hW.alike hK, hD.weaken (fun _ _ _ _ => trivial)⟩⟩ rfl rfl hl.1 rfl (lv_room (Nat.le_of_ble_eq_true rfl)) dX9_test__151 ⟨Nat.le_of_ble_eq_true rfl, Nat.le_of_ble_eq_true rfl⟩) hS (fun q _ h => hFc q h) hFc (fun u t H1 locs ht hvm w_433 hB hz1 hk1 hS => ?_)
          obtain ⟨f19_434, q_435, hP1, hK1, hD1⟩ := hB
          replace q_435 : f19_434 = upd ((fv 19)) (200 * n14 + n30) 13 := q_435
          rw [ht] at hP1
          have hK := va_K.moved hvm.symm hK1
          generalize H1 = H at hP1 hS ⊢
          have hP : va_P D vwCl (mw h0 ad cs (upd (upd (upd (upd iv 21 (nI 0)) 22 p22_419) 25 (nI k25_420)) 30 (nI (n30 + 1))) (uF fv 19 f19_434) gv) H := hP1
          have hD : va_D A (mw h0 ad cs (upd (upd (upd (upd iv 21 (nI 0)) 22 p22_419) 25 (nI k25_420)) 30 (nI (n30 + 1))) (uF fv 19 f19_434) gv) := hD1.weaken (fun _ _ _ h => hFc _ h)
          refine lv_aload_n hx hb dX9_test__154 rfl (lv_at hl 4 rfl) ?_
          refine lv_iload_n hx hb dX9_test__155 rfl (lv_at hl 2 rfl) ?_
          have hFc := free_all hD hS hA
          refine va_callv (va_runV (As := [.int 1]) (rest := []) ⟨hx, hb, hml, hown, hts⟩ (m_add l D h0 ad cs (upd (upd (upd (upd iv 21 (nI 0)) 22 p22_419) 25 (nI k25_420)) 30 (nI (n30 + 1))) (uF fv 19 f19_434) gv n14 (n30 + 1) 1 H.size h14 rfl (by omega) (by omega)) (cwV 1 hts gX9_test__X9_add rfl rfl rfl (by decide +kernel) ⟨Nat.le_of_ble_eq_true rfl, Nat.le_of_ble_eq_true rfl⟩) ⟨fun a U g mk q => by obtain ⟨q0, q1, qP, qK, qD⟩ := q; exact ⟨q0, q1, qP, va_K.moved (u := U) (U := U.calling g mk a) (Vm.Alike.refl U.vm) qK, qD⟩, va_recv hK hP (ci := 9) (q0 := 0) rfl rfl, fun U hU hW => ⟨rfl, by rw [hU], by rw [hU]; exact hP, va_K.moved hW.alike hK, hD.weaken (fun _ _ _ _ => trivial)⟩⟩ rfl rfl hl.1 rfl (lv_room (Nat.le_of_ble_eq_true rfl)) dX9_test__156 ⟨Nat.le_of_ble_eq_true rfl, Nat.le_of_ble_eq_true rfl⟩) hS (fun q _ h => hFc q h) hFc (fun u t H1 locs ht hvm w_437 hB hz1 hk1 hS => ?_)
          obtain ⟨f19_438, q_439, hP1, hK1, hD1⟩ := hB
          replace q_439 : f19_438 = upd ((f19_434)) (200 * n14 + (n30 + 1)) 1 := q_439
          rw [ht] at hP1
          have hK := va_K.moved hvm.symm hK1
          generalize H1 = H at hP1 hS ⊢
          have hP : va_P D vwCl (mw h0 ad cs (upd (upd (upd (upd iv 21 (nI 0)) 22 p22_419) 25 (nI k25_420)) 30 (nI ((n30 + 1) + 1))) (uF fv 19 f19_438) gv) H := hP1
          have hD : va_D A (mw h0 ad cs (upd (upd (upd (upd iv 21 (nI 0)) 22 p22_419) 25 (nI k25_420)) 30 (nI ((n30 + 1) + 1))) (uF fv 19 f19_438) gv) := hD1.weaken (fun _ _ _ h => hFc _ h)
          refine lv_aload_n hx hb dX9_test__159 rfl (lv_at hl 4 rfl) ?_
          refine lv_iload_n hx hb dX9_test__160 rfl (lv_at hl 1 rfl) ?_
          have hFc := free_all hD hS hA
          refine va_callv (va_runV (As := [.int (nI c_398)]) (rest := []) ⟨hx, hb, hml, hown, hts⟩ (m_add l D h0 ad cs (upd (upd (upd (upd iv 21 (nI 0)) 22 p22_419) 25 (nI k25_420)) 30 (nI ((n30 + 1) + 1))) (uF fv 19 f19_438) gv n14 ((n30 + 1) + 1) (nI c_398) H.size h14 rfl (by omega) (by omega)) (cwV 1 hts gX9_test__X9_add rfl rfl rfl (by decide +kernel) ⟨Nat.le_of_ble_eq_true rfl, Nat.le_of_ble_eq_true rfl⟩) ⟨fun a U g mk q => by obtain ⟨q0, q1, qP, qK, qD⟩ := q; exact ⟨q0, q1, qP, va_K.moved (u := U) (U := U.calling g mk a) (Vm.Alike.refl U.vm) qK, qD⟩, va_recv hK hP (ci := 9) (q0 := 0) rfl rfl, fun U hU hW => ⟨rfl, by rw [hU], by rw [hU]; exact hP, va_K.moved hW.alike hK, hD.weaken (fun _ _ _ _ => trivial)⟩⟩ rfl rfl hl.1 rfl (lv_room (Nat.le_of_ble_eq_true rfl)) dX9_test__161 ⟨Nat.le_of_ble_eq_true rfl, Nat.le_of_ble_eq_true rfl⟩) hS (fun q _ h => hFc q h) hFc (fun u t H1 locs ht hvm w_441 hB hz1 hk1 hS => ?_)
          obtain ⟨f19_442, q_443, hP1, hK1, hD1⟩ := hB
          replace q_443 : f19_442 = upd ((f19_438)) (200 * n14 + ((n30 + 1) + 1)) (nI c_398) := q_443
          rw [ht] at hP1
          have hK := va_K.moved hvm.symm hK1
          generalize H1 = H at hP1 hS ⊢
          have hP : va_P D vwCl (mw h0 ad cs (upd (upd (upd (upd iv 21 (nI 0)) 22 p22_419) 25 (nI k25_420)) 30 (nI (((n30 + 1) + 1) + 1))) (uF fv 19 f19_442) gv) H := hP1
          have hD : va_D A (mw h0 ad cs (upd (upd (upd (upd iv 21 (nI 0)) 22 p22_419) 25 (nI k25_420)) 30 (nI (((n30 + 1) + 1) + 1))) (uF fv 19 f19_442) gv) := hD1.weaken (fun _ _ _ h => hFc _ h)
          refine lv_aload_n hx hb dX9_test__164 rfl (lv_at hl 4 rfl) ?_
          refine lv_iload hx hb dX9_test__165 (lv_at hl 0 rfl) ?_
          have hFc := free_all hD hS hA
          refine va_callv (va_runV (As := [.int (nI v_428)]) (rest := []) ⟨hx, hb, hml, hown, hts⟩ (m_add l D h0 ad cs (upd (upd (upd (upd iv 21 (nI 0)) 22 p22_419) 25 (nI k25_420)) 30 (nI (((n30 + 1) + 1) + 1))) (uF fv 19 f19_442) gv n14 (((n30 + 1) + 1) + 1) (nI v_428) H.size h14 rfl (by omega) (by omega)) (cwV 1 hts gX9_test__X9_add rfl rfl rfl (by decide +kernel) ⟨Nat.le_of_ble_eq_true rfl, Nat.le_of_ble_eq_true rfl⟩) ⟨fun a U g mk q => by obtain ⟨q0, q1, qP, qK, qD⟩ := q; exact ⟨q0, q1, qP, va_K.moved (u := U) (U := U.calling g mk a) (Vm.Alike.refl U.vm) qK, qD⟩, va_recv hK hP (ci := 9) (q0 := 0) rfl rfl, fun U hU hW => ⟨rfl, by rw [hU], by rw [hU]; exact hP, va_K.moved hW.alike hK, hD.weaken (fun _ _ _ _ => trivial)⟩⟩ rfl rfl hl.1 rfl (lv_room (Nat.le_of_ble_eq_true rfl)) dX9_test__167 ⟨Nat.le_of_ble_eq_true rfl, Nat.le_of_ble_eq_true rfl⟩) hS (fun q _ h => hFc q h) hFc (fun u t H1 locs ht hvm w_445 hB hz1 hk1 hS => ?_)
          obtain ⟨f19_446, q_447, hP1, hK1, hD1⟩ := hB
          replace q_447 : f19_446 = upd ((f19_442)) (200 * n14 + (((n30 + 1) + 1) + 1)) (nI v_428) := q_447
          rw [ht] at hP1
          have hK := va_K.moved hvm.symm hK1
          generalize H1 = H at hP1 hS ⊢
          have hP : va_P D vwCl (mw h0 ad cs (upd (upd (upd (upd iv 21 (nI 0)) 22 p22_419) 25 (nI k25_420)) 30 (nI ((((n30 + 1) + 1) + 1) + 1))) (uF fv 19 f19_446) gv) H := hP1
          have hD : va_D A (mw h0 ad cs (upd (upd (upd (upd iv 21 (nI 0)) 22 p22_419) 25 (nI k25_420)) 30 (nI ((((n30 + 1) + 1) + 1) + 1))) (uF fv 19 f19_446) gv) := hD1.weaken (fun _ _ _ h => hFc _ h)
          have hP : va_P D vwCl (mw h0 ad cs (upd (upd (upd (upd iv 21 (nI 0)) 22 p22_419) 25 (nI k25_420)) 30 (nI ((((n30 + 1) + 1) + 1) + 1))) (uF fv 19 f19_446) gv) H := hP
          have hD : va_D A (mw h0 ad cs (upd (upd (upd (upd iv 21 (nI 0)) 22 p22_419) 25 (nI k25_420)) 30 (nI ((((n30 + 1) + 1) + 1) + 1))) (uF fv 19 f19_446) gv) := hD
          exact W.vret hx hb hr (fun t ht hW => ⟨⟨(), rfl, trivial, 0, p22_419, k25_420, (((n30 + 1) + 1) + 1) + 1, f19_446, by omega, by omega, by omega, Or.inr ⟨by omega, by omega, by omega, fun i h9 => by rw [q_447, up_ne (by omega), q_443, up_ne (by omega), q_439, up_ne (by omega), q_435, up_ne (by omega)], by rw [q_447, up_ne (by omega), q_443, up_ne (by omega), q_439, up_ne (by omega), q_435, up_eq], by rw [q_447, up_ne (by omega), q_443, up_ne (by omega), q_439, up_eq]; exact ⟨1, by omega, rfl⟩⟩, by rw [ht]; exact hP, va_K.moved hW.alike hK, hD⟩, hS.F ht⟩) hS.2.2 dX9_test__170
        have d_448 := n_ne (a := c_398) (b := 9) (by omega) (by omega) c_410
        refine lv_iload_n hx hb dX9_test__107 rfl (lv_at hl 0 rfl) ?_
        refine lv_bipush (v := 10) hx hb dX9_test__108 (by decide) ?_
        refine lv_icmp_eq (tgt := 123) hx hb dX9_test__110 (by decide) (fun c_449 => ?_) (fun c_449 => ?_)
        · have d_450 := n_eq (a := c_398) (b := 10) (by omega) (by omega) c_449
          refine lv_aload_n hx hb dX9_test__123 rfl (lv_at hl 3 rfl) ?_
          refine lv_aload_n hx hb dX9_test__124 rfl (lv_at hl 3 rfl) ?_
          refine vp_callSi (W.runV (As := []) (rest := [.ref h0]) ⟨hx, hb, hml, hown, hts⟩ (m_wordEnd l D h0 ad cs (upd iv 25 (nI k25_393)) fv gv k25_393 n26  rfl h26 (by omega) (by omega)) (cwV 0 hts gX9_test__X9_wordEnd rfl rfl rfl (by decide +kernel) ⟨Nat.le_of_ble_eq_true rfl, Nat.le_of_ble_eq_true rfl⟩) ⟨fun a U g mk q => ⟨q.1, q.2.1, va_K.moved (u := U) (U := U.calling g mk a) (Vm.Alike.refl U.vm) q.2.2⟩, va_recv hK hP (ci := 9) (q0 := 0) rfl rfl, fun U hU hW => ⟨rfl, by rw [hU]; exact hP, va_K.moved hW.alike hK⟩⟩ rfl rfl hl.1 rfl (lv_room (Nat.le_of_ble_eq_true rfl)) dX9_test__125 ⟨Nat.le_of_ble_eq_true rfl, Nat.le_of_ble_eq_true rfl⟩) (fun r_451 k_452 => ?_)
          obtain ⟨e_453, rfl, he_454⟩ := k_452
          have hq_e_453 : e_453 = e_399 := he_454.uq he_400
          refine va_put (D := D) (ci := 9) (v := .int (nI e_453)) (ty := .int) (C := RX9) (T := TX9) (N := 44) hx hb hts hin9 tyX9 tyX9_ok nmX9 hown hK hP hD hS 0 rfl rfl 25 (by decide) (hts (.fieldLink RX9 87 "HoneyHouseModel" "at" "I") (List.mem_of_getElem? (i := 1) rfl)) (fun _ h9 => h9) rfl (tyX9_ok 25 (by decide)) rfl rfl (Nat.le_of_ble_eq_true rfl) dX9_test__128 (fun H locs hP hD hS => ?_)
          have hP : va_P D vwCl (mw h0 ad cs (upd iv 25 (nI e_453)) fv gv) H := hP
          have hD : va_D A (mw h0 ad cs (upd iv 25 (nI e_453)) fv gv) := hD
          refine lv_aload_n hx hb dX9_test__131 rfl (lv_at hl 3 rfl) ?_
          refine lv_sipush (v := 1000) hx hb dX9_test__132 (by decide) ?_
          have hFc := free_all hD hS hA
          refine va_calli (va_runV (As := [.int 1000]) (rest := []) ⟨hx, hb, hml, hown, hts⟩ (m_number l D h0 ad cs (upd iv 25 (nI e_453)) fv gv n21 e_453 n26 1000 H.size h21 rfl h26 (by omega) (by omega) (by omega) (by omega)) (cwV 1 hts gX9_test__X9_number rfl rfl rfl (by decide +kernel) ⟨Nat.le_of_ble_eq_true rfl, Nat.le_of_ble_eq_true rfl⟩) ⟨fun a U g mk q => by obtain ⟨q0, q1, qP, qK, qD⟩ := q; exact ⟨q0, q1, qP, va_K.moved (u := U) (U := U.calling g mk a) (Vm.Alike.refl U.vm) qK, qD⟩, va_recv hK hP (ci := 9) (q0 := 0) rfl rfl, fun U hU hW => ⟨rfl, by rw [hU], by rw [hU]; exact hP, va_K.moved hW.alike hK, hD.weaken (fun _ _ _ _ => trivial)⟩⟩ rfl rfl hl.1 rfl (lv_room (Nat.le_of_ble_eq_true rfl)) dX9_test__135 ⟨Nat.le_of_ble_eq_true rfl, Nat.le_of_ble_eq_true rfl⟩) hS (fun q _ h => hFc q h) hFc (fun r_455 u t H1 locs ht hvm w_456 hB hz1 hk1 hS => ?_)
          subst w_456
          obtain ⟨k21_457, p22_458, k25_459, q_460, q_461, q_462, q_463, hP1, hK1, hD1⟩ := hB
          rw [ht] at hP1
          have hK := va_K.moved hvm.symm hK1
          generalize H1 = H at hP1 hS ⊢
          have hP : va_P D vwCl (mw h0 ad cs (upd (upd (upd iv 21 (nI k21_457)) 22 p22_458) 25 (nI k25_459)) fv gv) H := hP1
          have hD : va_D A (mw h0 ad cs (upd (upd (upd iv 21 (nI k21_457)) 22 p22_458) 25 (nI k25_459)) fv gv) := hD1.weaken (fun _ _ _ h => hFc _ h)
          rcases q_463 with hp_464 | ⟨rfl, hg_466, v_467, hv_468, rfl⟩
          · refine lv_istore (lv' := [(4, .int r_455), (3, .int (nI c_398)), (2, .int 1), (1, .int (nI c_8)), (0, .ref h0)]) hx hb dX9_test__138 hl (by decide) rfl (fun ls hl => ?_)
            refine lv_aload_n hx hb dX9_test__140 rfl (lv_at hl 4 rfl) ?_
            refine va_get (D := D) (ci := 9) (v := .int (nI k21_457)) (C := RX9) (T := TX9) (N := 44) hx hb hts hin9 hown hK hP 0 rfl rfl 21 (by decide) (hts (.fieldLink RX9 74 "HoneyHouseModel" "faultKind" "I") (List.mem_of_getElem? (i := 2) rfl)) (fun _ h9 => h9) rfl dX9_test__141 ?_
            refine lv_if_le (tgt := 148) hx hb dX9_test__144 (by decide) (fun c_469 => absurd c_469 (nI_nle (n := k21_457) (by omega) (by omega))) (fun c_469 => ?_)
            have hP : va_P D vwCl (mw h0 ad cs (upd (upd (upd (upd iv 21 (nI k21_457)) 22 p22_458) 25 (nI k25_459)) 30 (iv 30)) (uF fv 19 (fv 19)) gv) H := hP
            have hD : va_D A (mw h0 ad cs (upd (upd (upd (upd iv 21 (nI k21_457)) 22 p22_458) 25 (nI k25_459)) 30 (iv 30)) (uF fv 19 (fv 19)) gv) := hD
            have hP := hP
            rw [h30] at hP hD
            exact W.vret hx hb hr (fun t ht hW => ⟨⟨(), rfl, trivial, k21_457, p22_458, k25_459, n30, fv 19, by omega, by omega, by omega, Or.inl ⟨by omega, by omega, rfl⟩, by rw [ht]; exact hP, va_K.moved hW.alike hK, hD⟩, hS.F ht⟩) hS.2.2 dX9_test__147
          refine lv_istore (lv' := [(4, .int (nI v_467)), (3, .int (nI c_398)), (2, .int 1), (1, .int (nI c_8)), (0, .ref h0)]) hx hb dX9_test__138 hl (by decide) rfl (fun ls hl => ?_)
          refine lv_aload_n hx hb dX9_test__140 rfl (lv_at hl 4 rfl) ?_
          refine va_get (D := D) (ci := 9) (v := .int (nI 0)) (C := RX9) (T := TX9) (N := 44) hx hb hts hin9 hown hK hP 0 rfl rfl 21 (by decide) (hts (.fieldLink RX9 74 "HoneyHouseModel" "faultKind" "I") (List.mem_of_getElem? (i := 2) rfl)) (fun _ h9 => h9) rfl dX9_test__141 ?_
          refine lv_if_le (tgt := 148) hx hb dX9_test__144 (by decide) (fun c_470 => ?_) (fun c_470 => absurd (by decide) c_470)
          refine lv_aload_n hx hb dX9_test__148 rfl (lv_at hl 4 rfl) ?_
          refine lv_bipush (v := 13) hx hb dX9_test__149 (by decide) ?_
          have hFc := free_all hD hS hA
          refine va_callv (va_runV (As := [.int 13]) (rest := []) ⟨hx, hb, hml, hown, hts⟩ (m_add l D h0 ad cs (upd (upd (upd iv 21 (nI 0)) 22 p22_458) 25 (nI k25_459)) fv gv n14 n30 13 H.size h14 h30 (by omega) (by omega)) (cwV 1 hts gX9_test__X9_add rfl rfl rfl (by decide +kernel) ⟨Nat.le_of_ble_eq_true rfl, Nat.le_of_ble_eq_true rfl⟩) ⟨fun a U g mk q => by obtain ⟨q0, q1, qP, qK, qD⟩ := q; exact ⟨q0, q1, qP, va_K.moved (u := U) (U := U.calling g mk a) (Vm.Alike.refl U.vm) qK, qD⟩, va_recv hK hP (ci := 9) (q0 := 0) rfl rfl, fun U hU hW => ⟨rfl, by rw [hU], by rw [hU]; exact hP, va_K.moved hW.alike hK, hD.weaken (fun _ _ _ _ => trivial)⟩⟩ rfl rfl hl.1 rfl (lv_room (Nat.le_of_ble_eq_true rfl)) dX9_test__151 ⟨Nat.le_of_ble_eq_true rfl, Nat.le_of_ble_eq_true rfl⟩) hS (fun q _ h => hFc q h) hFc (fun u t H1 locs ht hvm w_472 hB hz1 hk1 hS => ?_)
          obtain ⟨f19_473, q_474, hP1, hK1, hD1⟩ := hB
          replace q_474 : f19_473 = upd ((fv 19)) (200 * n14 + n30) 13 := q_474
          rw [ht] at hP1
          have hK := va_K.moved hvm.symm hK1
          generalize H1 = H at hP1 hS ⊢
          have hP : va_P D vwCl (mw h0 ad cs (upd (upd (upd (upd iv 21 (nI 0)) 22 p22_458) 25 (nI k25_459)) 30 (nI (n30 + 1))) (uF fv 19 f19_473) gv) H := hP1
          have hD : va_D A (mw h0 ad cs (upd (upd (upd (upd iv 21 (nI 0)) 22 p22_458) 25 (nI k25_459)) 30 (nI (n30 + 1))) (uF fv 19 f19_473) gv) := hD1.weaken (fun _ _ _ h => hFc _ h)
          refine lv_aload_n hx hb dX9_test__154 rfl (lv_at hl 4 rfl) ?_
          refine lv_iload_n hx hb dX9_test__155 rfl (lv_at hl 2 rfl) ?_
          have hFc := free_all hD hS hA
          refine va_callv (va_runV (As := [.int 1]) (rest := []) ⟨hx, hb, hml, hown, hts⟩ (m_add l D h0 ad cs (upd (upd (upd (upd iv 21 (nI 0)) 22 p22_458) 25 (nI k25_459)) 30 (nI (n30 + 1))) (uF fv 19 f19_473) gv n14 (n30 + 1) 1 H.size h14 rfl (by omega) (by omega)) (cwV 1 hts gX9_test__X9_add rfl rfl rfl (by decide +kernel) ⟨Nat.le_of_ble_eq_true rfl, Nat.le_of_ble_eq_true rfl⟩) ⟨fun a U g mk q => by obtain ⟨q0, q1, qP, qK, qD⟩ := q; exact ⟨q0, q1, qP, va_K.moved (u := U) (U := U.calling g mk a) (Vm.Alike.refl U.vm) qK, qD⟩, va_recv hK hP (ci := 9) (q0 := 0) rfl rfl, fun U hU hW => ⟨rfl, by rw [hU], by rw [hU]; exact hP, va_K.moved hW.alike hK, hD.weaken (fun _ _ _ _ => trivial)⟩⟩ rfl rfl hl.1 rfl (lv_room (Nat.le_of_ble_eq_true rfl)) dX9_test__156 ⟨Nat.le_of_ble_eq_true rfl, Nat.le_of_ble_eq_true rfl⟩) hS (fun q _ h => hFc q h) hFc (fun u t H1 locs ht hvm w_476 hB hz1 hk1 hS => ?_)
          obtain ⟨f19_477, q_478, hP1, hK1, hD1⟩ := hB
          replace q_478 : f19_477 = upd ((f19_473)) (200 * n14 + (n30 + 1)) 1 := q_478
          rw [ht] at hP1
          have hK := va_K.moved hvm.symm hK1
          generalize H1 = H at hP1 hS ⊢
          have hP : va_P D vwCl (mw h0 ad cs (upd (upd (upd (upd iv 21 (nI 0)) 22 p22_458) 25 (nI k25_459)) 30 (nI ((n30 + 1) + 1))) (uF fv 19 f19_477) gv) H := hP1
          have hD : va_D A (mw h0 ad cs (upd (upd (upd (upd iv 21 (nI 0)) 22 p22_458) 25 (nI k25_459)) 30 (nI ((n30 + 1) + 1))) (uF fv 19 f19_477) gv) := hD1.weaken (fun _ _ _ h => hFc _ h)
          refine lv_aload_n hx hb dX9_test__159 rfl (lv_at hl 4 rfl) ?_
          refine lv_iload_n hx hb dX9_test__160 rfl (lv_at hl 1 rfl) ?_
          have hFc := free_all hD hS hA
          refine va_callv (va_runV (As := [.int (nI c_398)]) (rest := []) ⟨hx, hb, hml, hown, hts⟩ (m_add l D h0 ad cs (upd (upd (upd (upd iv 21 (nI 0)) 22 p22_458) 25 (nI k25_459)) 30 (nI ((n30 + 1) + 1))) (uF fv 19 f19_477) gv n14 ((n30 + 1) + 1) (nI c_398) H.size h14 rfl (by omega) (by omega)) (cwV 1 hts gX9_test__X9_add rfl rfl rfl (by decide +kernel) ⟨Nat.le_of_ble_eq_true rfl, Nat.le_of_ble_eq_true rfl⟩) ⟨fun a U g mk q => by obtain ⟨q0, q1, qP, qK, qD⟩ := q; exact ⟨q0, q1, qP, va_K.moved (u := U) (U := U.calling g mk a) (Vm.Alike.refl U.vm) qK, qD⟩, va_recv hK hP (ci := 9) (q0 := 0) rfl rfl, fun U hU hW => ⟨rfl, by rw [hU], by rw [hU]; exact hP, va_K.moved hW.alike hK, hD.weaken (fun _ _ _ _ => trivial)⟩⟩ rfl rfl hl.1 rfl (lv_room (Nat.le_of_ble_eq_true rfl)) dX9_test__161 ⟨Nat.le_of_ble_eq_true rfl, Nat.le_of_ble_eq_true rfl⟩) hS (fun q _ h => hFc q h) hFc (fun u t H1 locs ht hvm w_480 hB hz1 hk1 hS => ?_)
          obtain ⟨f19_481, q_482, hP1, hK1, hD1⟩ := hB
          replace q_482 : f19_481 = upd ((f19_477)) (200 * n14 + ((n30 + 1) + 1)) (nI c_398) := q_482
          rw [ht] at hP1
          have hK := va_K.moved hvm.symm hK1
          generalize H1 = H at hP1 hS ⊢
          have hP : va_P D vwCl (mw h0 ad cs (upd (upd (upd (upd iv 21 (nI 0)) 22 p22_458) 25 (nI k25_459)) 30 (nI (((n30 + 1) + 1) + 1))) (uF fv 19 f19_481) gv) H := hP1
          have hD : va_D A (mw h0 ad cs (upd (upd (upd (upd iv 21 (nI 0)) 22 p22_458) 25 (nI k25_459)) 30 (nI (((n30 + 1) + 1) + 1))) (uF fv 19 f19_481) gv) := hD1.weaken (fun _ _ _ h => hFc _ h)
          refine lv_aload_n hx hb dX9_test__164 rfl (lv_at hl 4 rfl) ?_
          refine lv_iload hx hb dX9_test__165 (lv_at hl 0 rfl) ?_
          have hFc := free_all hD hS hA
          refine va_callv (va_runV (As := [.int (nI v_467)]) (rest := []) ⟨hx, hb, hml, hown, hts⟩ (m_add l D h0 ad cs (upd (upd (upd (upd iv 21 (nI 0)) 22 p22_458) 25 (nI k25_459)) 30 (nI (((n30 + 1) + 1) + 1))) (uF fv 19 f19_481) gv n14 (((n30 + 1) + 1) + 1) (nI v_467) H.size h14 rfl (by omega) (by omega)) (cwV 1 hts gX9_test__X9_add rfl rfl rfl (by decide +kernel) ⟨Nat.le_of_ble_eq_true rfl, Nat.le_of_ble_eq_true rfl⟩) ⟨fun a U g mk q => by obtain ⟨q0, q1, qP, qK, qD⟩ := q; exact ⟨q0, q1, qP, va_K.moved (u := U) (U := U.calling g mk a) (Vm.Alike.refl U.vm) qK, qD⟩, va_recv hK hP (ci := 9) (q0 := 0) rfl rfl, fun U hU hW => ⟨rfl, by rw [hU], by rw [hU]; exact hP, va_K.moved hW.alike hK, hD.weaken (fun _ _ _ _ => trivial)⟩⟩ rfl rfl hl.1 rfl (lv_room (Nat.le_of_ble_eq_true rfl)) dX9_test__167 ⟨Nat.le_of_ble_eq_true rfl, Nat.le_of_ble_eq_true rfl⟩) hS (fun q _ h => hFc q h) hFc (fun u t H1 locs ht hvm w_484 hB hz1 hk1 hS => ?_)
          obtain ⟨f19_485, q_486, hP1, hK1, hD1⟩ := hB
          replace q_486 : f19_485 = upd ((f19_481)) (200 * n14 + (((n30 + 1) + 1) + 1)) (nI v_467) := q_486
          rw [ht] at hP1
          have hK := va_K.moved hvm.symm hK1
          generalize H1 = H at hP1 hS ⊢
          have hP : va_P D vwCl (mw h0 ad cs (upd (upd (upd (upd iv 21 (nI 0)) 22 p22_458) 25 (nI k25_459)) 30 (nI ((((n30 + 1) + 1) + 1) + 1))) (uF fv 19 f19_485) gv) H := hP1
          have hD : va_D A (mw h0 ad cs (upd (upd (upd (upd iv 21 (nI 0)) 22 p22_458) 25 (nI k25_459)) 30 (nI ((((n30 + 1) + 1) + 1) + 1))) (uF fv 19 f19_485) gv) := hD1.weaken (fun _ _ _ h => hFc _ h)
          have hP : va_P D vwCl (mw h0 ad cs (upd (upd (upd (upd iv 21 (nI 0)) 22 p22_458) 25 (nI k25_459)) 30 (nI ((((n30 + 1) + 1) + 1) + 1))) (uF fv 19 f19_485) gv) H := hP
          have hD : va_D A (mw h0 ad cs (upd (upd (upd (upd iv 21 (nI 0)) 22 p22_458) 25 (nI k25_459)) 30 (nI ((((n30 + 1) + 1) + 1) + 1))) (uF fv 19 f19_485) gv) := hD
          exact W.vret hx hb hr (fun t ht hW => ⟨⟨(), rfl, trivial, 0, p22_458, k25_459, (((n30 + 1) + 1) + 1) + 1, f19_485, by omega, by omega, by omega, Or.inr ⟨by omega, by omega, by omega, fun i h9 => by rw [q_486, up_ne (by omega), q_482, up_ne (by omega), q_478, up_ne (by omega), q_474, up_ne (by omega)], by rw [q_486, up_ne (by omega), q_482, up_ne (by omega), q_478, up_ne (by omega), q_474, up_eq], by rw [q_486, up_ne (by omega), q_482, up_ne (by omega), q_478, up_eq]; exact ⟨1, by omega, rfl⟩⟩, by rw [ht]; exact hP, va_K.moved hW.alike hK, hD⟩, hS.F ht⟩) hS.2.2 dX9_test__170
        have d_487 := n_ne (a := c_398) (b := 10) (by omega) (by omega) c_449
        refine lv_aload_n hx hb dX9_test__113 rfl (lv_at hl 3 rfl) ?_
        refine lv_iconst (v := 1) hx hb dX9_test__114 (by decide) ?_
        refine lv_aload_n hx hb dX9_test__115 rfl (lv_at hl 3 rfl) ?_
        refine va_get (D := D) (ci := 9) (v := .int (nI k25_393)) (C := RX9) (T := TX9) (N := 44) hx hb hts hin9 hown hK hP 0 rfl rfl 25 (by decide) (hts (.fieldLink RX9 87 "HoneyHouseModel" "at" "I") (List.mem_of_getElem? (i := 1) rfl)) (fun _ h9 => h9) rfl dX9_test__116 ?_
        have hFc := free_all hD hS hA
        refine va_callv (va_runV (As := [.int 1, .int (nI k25_393)]) (rest := []) ⟨hx, hb, hml, hown, hts⟩ (m_blame l D h0 ad cs (upd iv 25 (nI k25_393)) fv gv n21 1 (nI k25_393) H.size h21 (by omega) (by omega)) (cwV 2 hts gX9_test__X9_blame rfl rfl rfl (by decide +kernel) ⟨Nat.le_of_ble_eq_true rfl, Nat.le_of_ble_eq_true rfl⟩) ⟨fun a U g mk q => by obtain ⟨q0, q1, qP, qK, qD⟩ := q; exact ⟨q0, q1, qP, va_K.moved (u := U) (U := U.calling g mk a) (Vm.Alike.refl U.vm) qK, qD⟩, va_recv hK hP (ci := 9) (q0 := 0) rfl rfl, fun U hU hW => ⟨rfl, by rw [hU], by rw [hU]; exact hP, va_K.moved hW.alike hK, hD.weaken (fun _ _ _ _ => trivial)⟩⟩ rfl rfl hl.1 rfl (lv_room (Nat.le_of_ble_eq_true rfl)) dX9_test__119 ⟨Nat.le_of_ble_eq_true rfl, Nat.le_of_ble_eq_true rfl⟩) hS (fun q _ h => hFc q h) hFc (fun u t H1 locs ht hvm w_489 hB hz1 hk1 hS => ?_)
        obtain ⟨k21_490, p22_491, q_492, q_493, hP1, hK1, hD1⟩ := hB
        rw [ht] at hP1
        have hK := va_K.moved hvm.symm hK1
        generalize H1 = H at hP1 hS ⊢
        have hP : va_P D vwCl (mw h0 ad cs (upd (upd (upd iv 21 (nI k21_490)) 22 p22_491) 25 (nI k25_393)) fv gv) H := hP1
        have hD : va_D A (mw h0 ad cs (upd (upd (upd iv 21 (nI k21_490)) 22 p22_491) 25 (nI k25_393)) fv gv) := hD1.weaken (fun _ _ _ h => hFc _ h)
        have hP : va_P D vwCl (mw h0 ad cs (upd (upd (upd (upd iv 21 (nI k21_490)) 22 p22_491) 25 (nI k25_393)) 30 (iv 30)) (uF fv 19 (fv 19)) gv) H := hP
        have hD : va_D A (mw h0 ad cs (upd (upd (upd (upd iv 21 (nI k21_490)) 22 p22_491) 25 (nI k25_393)) 30 (iv 30)) (uF fv 19 (fv 19)) gv) := hD
        have hP := hP
        rw [h30] at hP hD
        exact W.vret hx hb hr (fun t ht hW => ⟨⟨(), rfl, trivial, k21_490, p22_491, k25_393, n30, fv 19, by omega, by omega, by omega, Or.inl ⟨by omega, by omega, rfl⟩, by rw [ht]; exact hP, va_K.moved hW.alike hK, hD⟩, hS.F ht⟩) hS.2.2 dX9_test__122
      have d_494 := n_nle (a := n21) (b := 0) (by omega) (by omega) c_389
      have hP : va_P D vwCl (mw h0 ad cs (upd (upd (upd (upd iv 21 (iv 21)) 22 (iv 22)) 25 (nI e_32)) 30 (iv 30)) (uF fv 19 (fv 19)) gv) H := hP
      have hD : va_D A (mw h0 ad cs (upd (upd (upd (upd iv 21 (iv 21)) 22 (iv 22)) 25 (nI e_32)) 30 (iv 30)) (uF fv 19 (fv 19)) gv) := hD
      have hP := hP
      have hP := hP
      rw [h21, h30] at hP hD
      exact W.vret hx hb hr (fun t ht hW => ⟨⟨(), rfl, trivial, n21, iv 22, e_32, n30, fv 19, by omega, by omega, by omega, Or.inl ⟨by omega, by omega, rfl⟩, by rw [ht]; exact hP, va_K.moved hW.alike hK, hD⟩, hS.F ht⟩) hS.2.2 dX9_test__95
    have d_495 := n_eq (a := c_8) (b := 4) (by omega) (by omega) c_34
    refine lv_iconst (v := 0) hx hb dX9_test__39 (by decide) ?_
    refine lv_goto (tgt := 87) hx hb dX9_test__40 (by decide) ?_
    refine lv_istore_n (lv' := [(2, .int 0), (1, .int (nI c_8)), (0, .ref h0)]) hx hb dX9_test__87 rfl hl (by decide) rfl (fun ls hl => ?_)
    refine lv_aload_n hx hb dX9_test__88 rfl (lv_at hl 2 rfl) ?_
    refine va_get (D := D) (ci := 9) (v := .int (iv 21)) (C := RX9) (T := TX9) (N := 44) hx hb hts hin9 hown hK hP 0 rfl rfl 21 (by decide) (hts (.fieldLink RX9 74 "HoneyHouseModel" "faultKind" "I") (List.mem_of_getElem? (i := 2) rfl)) (fun _ h9 => h9) rfl dX9_test__89 ?_
    refine tp_i (y := nI n21) (h21) ?_
    refine lv_if_le (tgt := 96) hx hb dX9_test__92 (by decide) (fun c_496 => ?_) (fun c_496 => ?_)
    · have d_497 := n_le (a := n21) (b := 0) (by omega) (by omega) c_496
      refine lv_aload_n hx hb dX9_test__96 rfl (lv_at hl 2 rfl) ?_
      have hFc := free_all hD hS hA
      refine va_calli (va_runV (As := []) (rest := []) ⟨hx, hb, hml, hown, hts⟩ (m_peek l D h0 ad cs (upd iv 25 (nI e_32)) fv gv e_32 n26  H.size rfl h26 (by omega) (by omega)) (cwV 0 hts gX9_test__X9_peek rfl rfl rfl (by decide +kernel) ⟨Nat.le_of_ble_eq_true rfl, Nat.le_of_ble_eq_true rfl⟩) ⟨fun a U g mk q => by obtain ⟨q0, q1, qP, qK, qD⟩ := q; exact ⟨q0, q1, qP, va_K.moved (u := U) (U := U.calling g mk a) (Vm.Alike.refl U.vm) qK, qD⟩, va_recv hK hP (ci := 9) (q0 := 0) rfl rfl, fun U hU hW => ⟨rfl, by rw [hU], by rw [hU]; exact hP, va_K.moved hW.alike hK, hD.weaken (fun _ _ _ _ => trivial)⟩⟩ rfl rfl hl.1 rfl (lv_room (Nat.le_of_ble_eq_true rfl)) dX9_test__97 ⟨Nat.le_of_ble_eq_true rfl, Nat.le_of_ble_eq_true rfl⟩) hS (fun q _ h => hFc q h) hFc (fun r_498 u t H1 locs ht hvm w_499 hB hz1 hk1 hS => ?_)
      subst w_499
      obtain ⟨k25_500, q_501, q_502, q_503, q_504, hP1, hK1, hD1⟩ := hB
      replace q_503 : (e_32 = n26 ∨ ¬ blk ((fv 0) e_32)) → k25_500 = e_32 := q_503
      replace q_504 : r_498 = (-1) ∨ ∃ c e : Nat, r_498 = nI c ∧ isE ((fv 0)) n26 k25_500 e ∧ ((c = 0 ∧ e = k25_500 + 4) ∨ (c = 1 ∧ e = k25_500 + 2) ∨ (c = 2 ∧ e = k25_500 + 3) ∨ (c = 3 ∧ e = k25_500 + 3) ∨ (c = 4 ∧ e = k25_500 + 5) ∨ (c = 5 ∧ e = k25_500 + 6) ∨ (c = 6 ∧ e = k25_500 + 4) ∨ (c = 7 ∧ e = k25_500 + 6) ∨ (c = 8 ∧ e = k25_500 + 4) ∨ (c = 9 ∧ e = k25_500 + 3) ∨ (c = 10 ∧ e = k25_500 + 3) ∨ c = 11) := q_504
      rw [ht] at hP1
      have hK := va_K.moved hvm.symm hK1
      generalize H1 = H at hP1 hS ⊢
      have hP : va_P D vwCl (mw h0 ad cs (upd iv 25 (nI k25_500)) fv gv) H := hP1
      have hD : va_D A (mw h0 ad cs (upd iv 25 (nI k25_500)) fv gv) := hD1.weaken (fun _ _ _ h => hFc _ h)
      rcases q_504 with rfl | ⟨c_505, e_506, rfl, he_507, hc_508⟩
      · refine lv_istore_n (lv' := [(3, .int (-1)), (2, .int 0), (1, .int (nI c_8)), (0, .ref h0)]) hx hb dX9_test__100 rfl hl (by decide) rfl (fun ls hl => ?_)
        refine lv_iload_n hx hb dX9_test__101 rfl (lv_at hl 0 rfl) ?_
        refine lv_bipush (v := 9) hx hb dX9_test__102 (by decide) ?_
        refine lv_icmp_eq (tgt := 123) hx hb dX9_test__104 (by decide) (fun c_509 => absurd c_509 (by decide)) (fun c_509 => ?_)
        refine lv_iload_n hx hb dX9_test__107 rfl (lv_at hl 0 rfl) ?_
        refine lv_bipush (v := 10) hx hb dX9_test__108 (by decide) ?_
        refine lv_icmp_eq (tgt := 123) hx hb dX9_test__110 (by decide) (fun c_510 => absurd c_510 (by decide)) (fun c_510 => ?_)
        refine lv_aload_n hx hb dX9_test__113 rfl (lv_at hl 3 rfl) ?_
        refine lv_iconst (v := 1) hx hb dX9_test__114 (by decide) ?_
        refine lv_aload_n hx hb dX9_test__115 rfl (lv_at hl 3 rfl) ?_
        refine va_get (D := D) (ci := 9) (v := .int (nI k25_500)) (C := RX9) (T := TX9) (N := 44) hx hb hts hin9 hown hK hP 0 rfl rfl 25 (by decide) (hts (.fieldLink RX9 87 "HoneyHouseModel" "at" "I") (List.mem_of_getElem? (i := 1) rfl)) (fun _ h9 => h9) rfl dX9_test__116 ?_
        have hFc := free_all hD hS hA
        refine va_callv (va_runV (As := [.int 1, .int (nI k25_500)]) (rest := []) ⟨hx, hb, hml, hown, hts⟩ (m_blame l D h0 ad cs (upd iv 25 (nI k25_500)) fv gv n21 1 (nI k25_500) H.size h21 (by omega) (by omega)) (cwV 2 hts gX9_test__X9_blame rfl rfl rfl (by decide +kernel) ⟨Nat.le_of_ble_eq_true rfl, Nat.le_of_ble_eq_true rfl⟩) ⟨fun a U g mk q => by obtain ⟨q0, q1, qP, qK, qD⟩ := q; exact ⟨q0, q1, qP, va_K.moved (u := U) (U := U.calling g mk a) (Vm.Alike.refl U.vm) qK, qD⟩, va_recv hK hP (ci := 9) (q0 := 0) rfl rfl, fun U hU hW => ⟨rfl, by rw [hU], by rw [hU]; exact hP, va_K.moved hW.alike hK, hD.weaken (fun _ _ _ _ => trivial)⟩⟩ rfl rfl hl.1 rfl (lv_room (Nat.le_of_ble_eq_true rfl)) dX9_test__119 ⟨Nat.le_of_ble_eq_true rfl, Nat.le_of_ble_eq_true rfl⟩) hS (fun q _ h => hFc q h) hFc (fun u t H1 locs ht hvm w_512 hB hz1 hk1 hS => ?_)
        obtain ⟨k21_513, p22_514, q_515, q_516, hP1, hK1, hD1⟩ := hB
        rw [ht] at hP1
        have hK := va_K.moved hvm.symm hK1
        generalize H1 = H at hP1 hS ⊢
        have hP : va_P D vwCl (mw h0 ad cs (upd (upd (upd iv 21 (nI k21_513)) 22 p22_514) 25 (nI k25_500)) fv gv) H := hP1
        have hD : va_D A (mw h0 ad cs (upd (upd (upd iv 21 (nI k21_513)) 22 p22_514) 25 (nI k25_500)) fv gv) := hD1.weaken (fun _ _ _ h => hFc _ h)
        have hP : va_P D vwCl (mw h0 ad cs (upd (upd (upd (upd iv 21 (nI k21_513)) 22 p22_514) 25 (nI k25_500)) 30 (iv 30)) (uF fv 19 (fv 19)) gv) H := hP
        have hD : va_D A (mw h0 ad cs (upd (upd (upd (upd iv 21 (nI k21_513)) 22 p22_514) 25 (nI k25_500)) 30 (iv 30)) (uF fv 19 (fv 19)) gv) := hD
        have hP := hP
        rw [h30] at hP hD
        exact W.vret hx hb hr (fun t ht hW => ⟨⟨(), rfl, trivial, k21_513, p22_514, k25_500, n30, fv 19, by omega, by omega, by omega, Or.inl ⟨by omega, by omega, rfl⟩, by rw [ht]; exact hP, va_K.moved hW.alike hK, hD⟩, hS.F ht⟩) hS.2.2 dX9_test__122
      have he_507b : k25_500 ≤ e_506 ∧ e_506 ≤ n26 := ⟨he_507.1, he_507.2.1⟩
      refine lv_istore_n (lv' := [(3, .int (nI c_505)), (2, .int 0), (1, .int (nI c_8)), (0, .ref h0)]) hx hb dX9_test__100 rfl hl (by decide) rfl (fun ls hl => ?_)
      refine lv_iload_n hx hb dX9_test__101 rfl (lv_at hl 0 rfl) ?_
      refine lv_bipush (v := 9) hx hb dX9_test__102 (by decide) ?_
      refine lv_icmp_eq (tgt := 123) hx hb dX9_test__104 (by decide) (fun c_517 => ?_) (fun c_517 => ?_)
      · have d_518 := n_eq (a := c_505) (b := 9) (by omega) (by omega) c_517
        refine lv_aload_n hx hb dX9_test__123 rfl (lv_at hl 3 rfl) ?_
        refine lv_aload_n hx hb dX9_test__124 rfl (lv_at hl 3 rfl) ?_
        refine vp_callSi (W.runV (As := []) (rest := [.ref h0]) ⟨hx, hb, hml, hown, hts⟩ (m_wordEnd l D h0 ad cs (upd iv 25 (nI k25_500)) fv gv k25_500 n26  rfl h26 (by omega) (by omega)) (cwV 0 hts gX9_test__X9_wordEnd rfl rfl rfl (by decide +kernel) ⟨Nat.le_of_ble_eq_true rfl, Nat.le_of_ble_eq_true rfl⟩) ⟨fun a U g mk q => ⟨q.1, q.2.1, va_K.moved (u := U) (U := U.calling g mk a) (Vm.Alike.refl U.vm) q.2.2⟩, va_recv hK hP (ci := 9) (q0 := 0) rfl rfl, fun U hU hW => ⟨rfl, by rw [hU]; exact hP, va_K.moved hW.alike hK⟩⟩ rfl rfl hl.1 rfl (lv_room (Nat.le_of_ble_eq_true rfl)) dX9_test__125 ⟨Nat.le_of_ble_eq_true rfl, Nat.le_of_ble_eq_true rfl⟩) (fun r_519 k_520 => ?_)
        obtain ⟨e_521, rfl, he_522⟩ := k_520
        have hq_e_521 : e_521 = e_506 := he_522.uq he_507
        refine va_put (D := D) (ci := 9) (v := .int (nI e_521)) (ty := .int) (C := RX9) (T := TX9) (N := 44) hx hb hts hin9 tyX9 tyX9_ok nmX9 hown hK hP hD hS 0 rfl rfl 25 (by decide) (hts (.fieldLink RX9 87 "HoneyHouseModel" "at" "I") (List.mem_of_getElem? (i := 1) rfl)) (fun _ h9 => h9) rfl (tyX9_ok 25 (by decide)) rfl rfl (Nat.le_of_ble_eq_true rfl) dX9_test__128 (fun H locs hP hD hS => ?_)
        have hP : va_P D vwCl (mw h0 ad cs (upd iv 25 (nI e_521)) fv gv) H := hP
        have hD : va_D A (mw h0 ad cs (upd iv 25 (nI e_521)) fv gv) := hD
        refine lv_aload_n hx hb dX9_test__131 rfl (lv_at hl 3 rfl) ?_
        refine lv_sipush (v := 1000) hx hb dX9_test__132 (by decide) ?_
        have hFc := free_all hD hS hA
        refine va_calli (va_runV (As := [.int 1000]) (rest := []) ⟨hx, hb, hml, hown, hts⟩ (m_number l D h0 ad cs (upd iv 25 (nI e_521)) fv gv n21 e_521 n26 1000 H.size h21 rfl h26 (by omega) (by omega) (by omega) (by omega)) (cwV 1 hts gX9_test__X9_number rfl rfl rfl (by decide +kernel) ⟨Nat.le_of_ble_eq_true rfl, Nat.le_of_ble_eq_true rfl⟩) ⟨fun a U g mk q => by obtain ⟨q0, q1, qP, qK, qD⟩ := q; exact ⟨q0, q1, qP, va_K.moved (u := U) (U := U.calling g mk a) (Vm.Alike.refl U.vm) qK, qD⟩, va_recv hK hP (ci := 9) (q0 := 0) rfl rfl, fun U hU hW => ⟨rfl, by rw [hU], by rw [hU]; exact hP, va_K.moved hW.alike hK, hD.weaken (fun _ _ _ _ => trivial)⟩⟩ rfl rfl hl.1 rfl (lv_room (Nat.le_of_ble_eq_true rfl)) dX9_test__135 ⟨Nat.le_of_ble_eq_true rfl, Nat.le_of_ble_eq_true rfl⟩) hS (fun q _ h => hFc q h) hFc (fun r_523 u t H1 locs ht hvm w_524 hB hz1 hk1 hS => ?_)
        subst w_524
        obtain ⟨k21_525, p22_526, k25_527, q_528, q_529, q_530, q_531, hP1, hK1, hD1⟩ := hB
        rw [ht] at hP1
        have hK := va_K.moved hvm.symm hK1
        generalize H1 = H at hP1 hS ⊢
        have hP : va_P D vwCl (mw h0 ad cs (upd (upd (upd iv 21 (nI k21_525)) 22 p22_526) 25 (nI k25_527)) fv gv) H := hP1
        have hD : va_D A (mw h0 ad cs (upd (upd (upd iv 21 (nI k21_525)) 22 p22_526) 25 (nI k25_527)) fv gv) := hD1.weaken (fun _ _ _ h => hFc _ h)
        rcases q_531 with hp_532 | ⟨rfl, hg_534, v_535, hv_536, rfl⟩
        · refine lv_istore (lv' := [(4, .int r_523), (3, .int (nI c_505)), (2, .int 0), (1, .int (nI c_8)), (0, .ref h0)]) hx hb dX9_test__138 hl (by decide) rfl (fun ls hl => ?_)
          refine lv_aload_n hx hb dX9_test__140 rfl (lv_at hl 4 rfl) ?_
          refine va_get (D := D) (ci := 9) (v := .int (nI k21_525)) (C := RX9) (T := TX9) (N := 44) hx hb hts hin9 hown hK hP 0 rfl rfl 21 (by decide) (hts (.fieldLink RX9 74 "HoneyHouseModel" "faultKind" "I") (List.mem_of_getElem? (i := 2) rfl)) (fun _ h9 => h9) rfl dX9_test__141 ?_
          refine lv_if_le (tgt := 148) hx hb dX9_test__144 (by decide) (fun c_537 => absurd c_537 (nI_nle (n := k21_525) (by omega) (by omega))) (fun c_537 => ?_)
          have hP : va_P D vwCl (mw h0 ad cs (upd (upd (upd (upd iv 21 (nI k21_525)) 22 p22_526) 25 (nI k25_527)) 30 (iv 30)) (uF fv 19 (fv 19)) gv) H := hP
          have hD : va_D A (mw h0 ad cs (upd (upd (upd (upd iv 21 (nI k21_525)) 22 p22_526) 25 (nI k25_527)) 30 (iv 30)) (uF fv 19 (fv 19)) gv) := hD
          have hP := hP
          rw [h30] at hP hD
          exact W.vret hx hb hr (fun t ht hW => ⟨⟨(), rfl, trivial, k21_525, p22_526, k25_527, n30, fv 19, by omega, by omega, by omega, Or.inl ⟨by omega, by omega, rfl⟩, by rw [ht]; exact hP, va_K.moved hW.alike hK, hD⟩, hS.F ht⟩) hS.2.2 dX9_test__147
        refine lv_istore (lv' := [(4, .int (nI v_535)), (3, .int (nI c_505)), (2, .int 0), (1, .int (nI c_8)), (0, .ref h0)]) hx hb dX9_test__138 hl (by decide) rfl (fun ls hl => ?_)
        refine lv_aload_n hx hb dX9_test__140 rfl (lv_at hl 4 rfl) ?_
        refine va_get (D := D) (ci := 9) (v := .int (nI 0)) (C := RX9) (T := TX9) (N := 44) hx hb hts hin9 hown hK hP 0 rfl rfl 21 (by decide) (hts (.fieldLink RX9 74 "HoneyHouseModel" "faultKind" "I") (List.mem_of_getElem? (i := 2) rfl)) (fun _ h9 => h9) rfl dX9_test__141 ?_
        refine lv_if_le (tgt := 148) hx hb dX9_test__144 (by decide) (fun c_538 => ?_) (fun c_538 => absurd (by decide) c_538)
        refine lv_aload_n hx hb dX9_test__148 rfl (lv_at hl 4 rfl) ?_
        refine lv_bipush (v := 13) hx hb dX9_test__149 (by decide) ?_
        have hFc := free_all hD hS hA
        refine va_callv (va_runV (As := [.int 13]) (rest := []) ⟨hx, hb, hml, hown, hts⟩ (m_add l D h0 ad cs (upd (upd (upd iv 21 (nI 0)) 22 p22_526) 25 (nI k25_527)) fv gv n14 n30 13 H.size h14 h30 (by omega) (by omega)) (cwV 1 hts gX9_test__X9_add rfl rfl rfl (by decide +kernel) ⟨Nat.le_of_ble_eq_true rfl, Nat.le_of_ble_eq_true rfl⟩) ⟨fun a U g mk q => by obtain ⟨q0, q1, qP, qK, qD⟩ := q; exact ⟨q0, q1, qP, va_K.moved (u := U) (U := U.calling g mk a) (Vm.Alike.refl U.vm) qK, qD⟩, va_recv hK hP (ci := 9) (q0 := 0) rfl rfl, fun U hU hW => ⟨rfl, by rw [hU], by rw [hU]; exact hP, va_K.moved hW.alike hK, hD.weaken (fun _ _ _ _ => trivial)⟩⟩ rfl rfl hl.1 rfl (lv_room (Nat.le_of_ble_eq_true rfl)) dX9_test__151 ⟨Nat.le_of_ble_eq_true rfl, Nat.le_of_ble_eq_true rfl⟩) hS (fun q _ h => hFc q h) hFc (fun u t H1 locs ht hvm w_540 hB hz1 hk1 hS => ?_)
        obtain ⟨f19_541, q_542, hP1, hK1, hD1⟩ := hB
        replace q_542 : f19_541 = upd ((fv 19)) (200 * n14 + n30) 13 := q_542
        rw [ht] at hP1
        have hK := va_K.moved hvm.symm hK1
        generalize H1 = H at hP1 hS ⊢
        have hP : va_P D vwCl (mw h0 ad cs (upd (upd (upd (upd iv 21 (nI 0)) 22 p22_526) 25 (nI k25_527)) 30 (nI (n30 + 1))) (uF fv 19 f19_541) gv) H := hP1
        have hD : va_D A (mw h0 ad cs (upd (upd (upd (upd iv 21 (nI 0)) 22 p22_526) 25 (nI k25_527)) 30 (nI (n30 + 1))) (uF fv 19 f19_541) gv) := hD1.weaken (fun _ _ _ h => hFc _ h)
        refine lv_aload_n hx hb dX9_test__154 rfl (lv_at hl 4 rfl) ?_
        refine lv_iload_n hx hb dX9_test__155 rfl (lv_at hl 2 rfl) ?_
        have hFc := free_all hD hS hA
        refine va_callv (va_runV (As := [.int 0]) (rest := []) ⟨hx, hb, hml, hown, hts⟩ (m_add l D h0 ad cs (upd (upd (upd (upd iv 21 (nI 0)) 22 p22_526) 25 (nI k25_527)) 30 (nI (n30 + 1))) (uF fv 19 f19_541) gv n14 (n30 + 1) 0 H.size h14 rfl (by omega) (by omega)) (cwV 1 hts gX9_test__X9_add rfl rfl rfl (by decide +kernel) ⟨Nat.le_of_ble_eq_true rfl, Nat.le_of_ble_eq_true rfl⟩) ⟨fun a U g mk q => by obtain ⟨q0, q1, qP, qK, qD⟩ := q; exact ⟨q0, q1, qP, va_K.moved (u := U) (U := U.calling g mk a) (Vm.Alike.refl U.vm) qK, qD⟩, va_recv hK hP (ci := 9) (q0 := 0) rfl rfl, fun U hU hW => ⟨rfl, by rw [hU], by rw [hU]; exact hP, va_K.moved hW.alike hK, hD.weaken (fun _ _ _ _ => trivial)⟩⟩ rfl rfl hl.1 rfl (lv_room (Nat.le_of_ble_eq_true rfl)) dX9_test__156 ⟨Nat.le_of_ble_eq_true rfl, Nat.le_of_ble_eq_true rfl⟩) hS (fun q _ h => hFc q h) hFc (fun u t H1 locs ht hvm w_544 hB hz1 hk1 hS => ?_)
        obtain ⟨f19_545, q_546, hP1, hK1, hD1⟩ := hB
        replace q_546 : f19_545 = upd ((f19_541)) (200 * n14 + (n30 + 1)) 0 := q_546
        rw [ht] at hP1
        have hK := va_K.moved hvm.symm hK1
        generalize H1 = H at hP1 hS ⊢
        have hP : va_P D vwCl (mw h0 ad cs (upd (upd (upd (upd iv 21 (nI 0)) 22 p22_526) 25 (nI k25_527)) 30 (nI ((n30 + 1) + 1))) (uF fv 19 f19_545) gv) H := hP1
        have hD : va_D A (mw h0 ad cs (upd (upd (upd (upd iv 21 (nI 0)) 22 p22_526) 25 (nI k25_527)) 30 (nI ((n30 + 1) + 1))) (uF fv 19 f19_545) gv) := hD1.weaken (fun _ _ _ h => hFc _ h)
        refine lv_aload_n hx hb dX9_test__159 rfl (lv_at hl 4 rfl) ?_
        refine lv_iload_n hx hb dX9_test__160 rfl (lv_at hl 1 rfl) ?_
        have hFc := free_all hD hS hA
        refine va_callv (va_runV (As := [.int (nI c_505)]) (rest := []) ⟨hx, hb, hml, hown, hts⟩ (m_add l D h0 ad cs (upd (upd (upd (upd iv 21 (nI 0)) 22 p22_526) 25 (nI k25_527)) 30 (nI ((n30 + 1) + 1))) (uF fv 19 f19_545) gv n14 ((n30 + 1) + 1) (nI c_505) H.size h14 rfl (by omega) (by omega)) (cwV 1 hts gX9_test__X9_add rfl rfl rfl (by decide +kernel) ⟨Nat.le_of_ble_eq_true rfl, Nat.le_of_ble_eq_true rfl⟩) ⟨fun a U g mk q => by obtain ⟨q0, q1, qP, qK, qD⟩ := q; exact ⟨q0, q1, qP, va_K.moved (u := U) (U := U.calling g mk a) (Vm.Alike.refl U.vm) qK, qD⟩, va_recv hK hP (ci := 9) (q0 := 0) rfl rfl, fun U hU hW => ⟨rfl, by rw [hU], by rw [hU]; exact hP, va_K.moved hW.alike hK, hD.weaken (fun _ _ _ _ => trivial)⟩⟩ rfl rfl hl.1 rfl (lv_room (Nat.le_of_ble_eq_true rfl)) dX9_test__161 ⟨Nat.le_of_ble_eq_true rfl, Nat.le_of_ble_eq_true rfl⟩) hS (fun q _ h => hFc q h) hFc (fun u t H1 locs ht hvm w_548 hB hz1 hk1 hS => ?_)
        obtain ⟨f19_549, q_550, hP1, hK1, hD1⟩ := hB
        replace q_550 : f19_549 = upd ((f19_545)) (200 * n14 + ((n30 + 1) + 1)) (nI c_505) := q_550
        rw [ht] at hP1
        have hK := va_K.moved hvm.symm hK1
        generalize H1 = H at hP1 hS ⊢
        have hP : va_P D vwCl (mw h0 ad cs (upd (upd (upd (upd iv 21 (nI 0)) 22 p22_526) 25 (nI k25_527)) 30 (nI (((n30 + 1) + 1) + 1))) (uF fv 19 f19_549) gv) H := hP1
        have hD : va_D A (mw h0 ad cs (upd (upd (upd (upd iv 21 (nI 0)) 22 p22_526) 25 (nI k25_527)) 30 (nI (((n30 + 1) + 1) + 1))) (uF fv 19 f19_549) gv) := hD1.weaken (fun _ _ _ h => hFc _ h)
        refine lv_aload_n hx hb dX9_test__164 rfl (lv_at hl 4 rfl) ?_
        refine lv_iload hx hb dX9_test__165 (lv_at hl 0 rfl) ?_
        have hFc := free_all hD hS hA
        refine va_callv (va_runV (As := [.int (nI v_535)]) (rest := []) ⟨hx, hb, hml, hown, hts⟩ (m_add l D h0 ad cs (upd (upd (upd (upd iv 21 (nI 0)) 22 p22_526) 25 (nI k25_527)) 30 (nI (((n30 + 1) + 1) + 1))) (uF fv 19 f19_549) gv n14 (((n30 + 1) + 1) + 1) (nI v_535) H.size h14 rfl (by omega) (by omega)) (cwV 1 hts gX9_test__X9_add rfl rfl rfl (by decide +kernel) ⟨Nat.le_of_ble_eq_true rfl, Nat.le_of_ble_eq_true rfl⟩) ⟨fun a U g mk q => by obtain ⟨q0, q1, qP, qK, qD⟩ := q; exact ⟨q0, q1, qP, va_K.moved (u := U) (U := U.calling g mk a) (Vm.Alike.refl U.vm) qK, qD⟩, va_recv hK hP (ci := 9) (q0 := 0) rfl rfl, fun U hU hW => ⟨rfl, by rw [hU], by rw [hU]; exact hP, va_K.moved hW.alike hK, hD.weaken (fun _ _ _ _ => trivial)⟩⟩ rfl rfl hl.1 rfl (lv_room (Nat.le_of_ble_eq_true rfl)) dX9_test__167 ⟨Nat.le_of_ble_eq_true rfl, Nat.le_of_ble_eq_true rfl⟩) hS (fun q _ h => hFc q h) hFc (fun u t H1 locs ht hvm w_552 hB hz1 hk1 hS => ?_)
        obtain ⟨f19_553, q_554, hP1, hK1, hD1⟩ := hB
        replace q_554 : f19_553 = upd ((f19_549)) (200 * n14 + (((n30 + 1) + 1) + 1)) (nI v_535) := q_554
        rw [ht] at hP1
        have hK := va_K.moved hvm.symm hK1
        generalize H1 = H at hP1 hS ⊢
        have hP : va_P D vwCl (mw h0 ad cs (upd (upd (upd (upd iv 21 (nI 0)) 22 p22_526) 25 (nI k25_527)) 30 (nI ((((n30 + 1) + 1) + 1) + 1))) (uF fv 19 f19_553) gv) H := hP1
        have hD : va_D A (mw h0 ad cs (upd (upd (upd (upd iv 21 (nI 0)) 22 p22_526) 25 (nI k25_527)) 30 (nI ((((n30 + 1) + 1) + 1) + 1))) (uF fv 19 f19_553) gv) := hD1.weaken (fun _ _ _ h => hFc _ h)
        have hP : va_P D vwCl (mw h0 ad cs (upd (upd (upd (upd iv 21 (nI 0)) 22 p22_526) 25 (nI k25_527)) 30 (nI ((((n30 + 1) + 1) + 1) + 1))) (uF fv 19 f19_553) gv) H := hP
        have hD : va_D A (mw h0 ad cs (upd (upd (upd (upd iv 21 (nI 0)) 22 p22_526) 25 (nI k25_527)) 30 (nI ((((n30 + 1) + 1) + 1) + 1))) (uF fv 19 f19_553) gv) := hD
        exact W.vret hx hb hr (fun t ht hW => ⟨⟨(), rfl, trivial, 0, p22_526, k25_527, (((n30 + 1) + 1) + 1) + 1, f19_553, by omega, by omega, by omega, Or.inr ⟨by omega, by omega, by omega, fun i h9 => by rw [q_554, up_ne (by omega), q_550, up_ne (by omega), q_546, up_ne (by omega), q_542, up_ne (by omega)], by rw [q_554, up_ne (by omega), q_550, up_ne (by omega), q_546, up_ne (by omega), q_542, up_eq], by rw [q_554, up_ne (by omega), q_550, up_ne (by omega), q_546, up_eq]; exact ⟨0, by omega, rfl⟩⟩, by rw [ht]; exact hP, va_K.moved hW.alike hK, hD⟩, hS.F ht⟩) hS.2.2 dX9_test__170
      have d_555 := n_ne (a := c_505) (b := 9) (by omega) (by omega) c_517
      refine lv_iload_n hx hb dX9_test__107 rfl (lv_at hl 0 rfl) ?_
      refine lv_bipush (v := 10) hx hb dX9_test__108 (by decide) ?_
      refine lv_icmp_eq (tgt := 123) hx hb dX9_test__110 (by decide) (fun c_556 => ?_) (fun c_556 => ?_)
      · have d_557 := n_eq (a := c_505) (b := 10) (by omega) (by omega) c_556
        refine lv_aload_n hx hb dX9_test__123 rfl (lv_at hl 3 rfl) ?_
        refine lv_aload_n hx hb dX9_test__124 rfl (lv_at hl 3 rfl) ?_
        refine vp_callSi (W.runV (As := []) (rest := [.ref h0]) ⟨hx, hb, hml, hown, hts⟩ (m_wordEnd l D h0 ad cs (upd iv 25 (nI k25_500)) fv gv k25_500 n26  rfl h26 (by omega) (by omega)) (cwV 0 hts gX9_test__X9_wordEnd rfl rfl rfl (by decide +kernel) ⟨Nat.le_of_ble_eq_true rfl, Nat.le_of_ble_eq_true rfl⟩) ⟨fun a U g mk q => ⟨q.1, q.2.1, va_K.moved (u := U) (U := U.calling g mk a) (Vm.Alike.refl U.vm) q.2.2⟩, va_recv hK hP (ci := 9) (q0 := 0) rfl rfl, fun U hU hW => ⟨rfl, by rw [hU]; exact hP, va_K.moved hW.alike hK⟩⟩ rfl rfl hl.1 rfl (lv_room (Nat.le_of_ble_eq_true rfl)) dX9_test__125 ⟨Nat.le_of_ble_eq_true rfl, Nat.le_of_ble_eq_true rfl⟩) (fun r_558 k_559 => ?_)
        obtain ⟨e_560, rfl, he_561⟩ := k_559
        have hq_e_560 : e_560 = e_506 := he_561.uq he_507
        refine va_put (D := D) (ci := 9) (v := .int (nI e_560)) (ty := .int) (C := RX9) (T := TX9) (N := 44) hx hb hts hin9 tyX9 tyX9_ok nmX9 hown hK hP hD hS 0 rfl rfl 25 (by decide) (hts (.fieldLink RX9 87 "HoneyHouseModel" "at" "I") (List.mem_of_getElem? (i := 1) rfl)) (fun _ h9 => h9) rfl (tyX9_ok 25 (by decide)) rfl rfl (Nat.le_of_ble_eq_true rfl) dX9_test__128 (fun H locs hP hD hS => ?_)
        have hP : va_P D vwCl (mw h0 ad cs (upd iv 25 (nI e_560)) fv gv) H := hP
        have hD : va_D A (mw h0 ad cs (upd iv 25 (nI e_560)) fv gv) := hD
        refine lv_aload_n hx hb dX9_test__131 rfl (lv_at hl 3 rfl) ?_
        refine lv_sipush (v := 1000) hx hb dX9_test__132 (by decide) ?_
        have hFc := free_all hD hS hA
        refine va_calli (va_runV (As := [.int 1000]) (rest := []) ⟨hx, hb, hml, hown, hts⟩ (m_number l D h0 ad cs (upd iv 25 (nI e_560)) fv gv n21 e_560 n26 1000 H.size h21 rfl h26 (by omega) (by omega) (by omega) (by omega)) (cwV 1 hts gX9_test__X9_number rfl rfl rfl (by decide +kernel) ⟨Nat.le_of_ble_eq_true rfl, Nat.le_of_ble_eq_true rfl⟩) ⟨fun a U g mk q => by obtain ⟨q0, q1, qP, qK, qD⟩ := q; exact ⟨q0, q1, qP, va_K.moved (u := U) (U := U.calling g mk a) (Vm.Alike.refl U.vm) qK, qD⟩, va_recv hK hP (ci := 9) (q0 := 0) rfl rfl, fun U hU hW => ⟨rfl, by rw [hU], by rw [hU]; exact hP, va_K.moved hW.alike hK, hD.weaken (fun _ _ _ _ => trivial)⟩⟩ rfl rfl hl.1 rfl (lv_room (Nat.le_of_ble_eq_true rfl)) dX9_test__135 ⟨Nat.le_of_ble_eq_true rfl, Nat.le_of_ble_eq_true rfl⟩) hS (fun q _ h => hFc q h) hFc (fun r_562 u t H1 locs ht hvm w_563 hB hz1 hk1 hS => ?_)
        subst w_563
        obtain ⟨k21_564, p22_565, k25_566, q_567, q_568, q_569, q_570, hP1, hK1, hD1⟩ := hB
        rw [ht] at hP1
        have hK := va_K.moved hvm.symm hK1
        generalize H1 = H at hP1 hS ⊢
        have hP : va_P D vwCl (mw h0 ad cs (upd (upd (upd iv 21 (nI k21_564)) 22 p22_565) 25 (nI k25_566)) fv gv) H := hP1
        have hD : va_D A (mw h0 ad cs (upd (upd (upd iv 21 (nI k21_564)) 22 p22_565) 25 (nI k25_566)) fv gv) := hD1.weaken (fun _ _ _ h => hFc _ h)
        rcases q_570 with hp_571 | ⟨rfl, hg_573, v_574, hv_575, rfl⟩
        · refine lv_istore (lv' := [(4, .int r_562), (3, .int (nI c_505)), (2, .int 0), (1, .int (nI c_8)), (0, .ref h0)]) hx hb dX9_test__138 hl (by decide) rfl (fun ls hl => ?_)
          refine lv_aload_n hx hb dX9_test__140 rfl (lv_at hl 4 rfl) ?_
          refine va_get (D := D) (ci := 9) (v := .int (nI k21_564)) (C := RX9) (T := TX9) (N := 44) hx hb hts hin9 hown hK hP 0 rfl rfl 21 (by decide) (hts (.fieldLink RX9 74 "HoneyHouseModel" "faultKind" "I") (List.mem_of_getElem? (i := 2) rfl)) (fun _ h9 => h9) rfl dX9_test__141 ?_
          refine lv_if_le (tgt := 148) hx hb dX9_test__144 (by decide) (fun c_576 => absurd c_576 (nI_nle (n := k21_564) (by omega) (by omega))) (fun c_576 => ?_)
          have hP : va_P D vwCl (mw h0 ad cs (upd (upd (upd (upd iv 21 (nI k21_564)) 22 p22_565) 25 (nI k25_566)) 30 (iv 30)) (uF fv 19 (fv 19)) gv) H := hP
          have hD : va_D A (mw h0 ad cs (upd (upd (upd (upd iv 21 (nI k21_564)) 22 p22_565) 25 (nI k25_566)) 30 (iv 30)) (uF fv 19 (fv 19)) gv) := hD
          have hP := hP
          rw [h30] at hP hD
          exact W.vret hx hb hr (fun t ht hW => ⟨⟨(), rfl, trivial, k21_564, p22_565, k25_566, n30, fv 19, by omega, by omega, by omega, Or.inl ⟨by omega, by omega, rfl⟩, by rw [ht]; exact hP, va_K.moved hW.alike hK, hD⟩, hS.F ht⟩) hS.2.2 dX9_test__147
        refine lv_istore (lv' := [(4, .int (nI v_574)), (3, .int (nI c_505)), (2, .int 0), (1, .int (nI c_8)), (0, .ref h0)]) hx hb dX9_test__138 hl (by decide) rfl (fun ls hl => ?_)
        refine lv_aload_n hx hb dX9_test__140 rfl (lv_at hl 4 rfl) ?_
        refine va_get (D := D) (ci := 9) (v := .int (nI 0)) (C := RX9) (T := TX9) (N := 44) hx hb hts hin9 hown hK hP 0 rfl rfl 21 (by decide) (hts (.fieldLink RX9 74 "HoneyHouseModel" "faultKind" "I") (List.mem_of_getElem? (i := 2) rfl)) (fun _ h9 => h9) rfl dX9_test__141 ?_
        refine lv_if_le (tgt := 148) hx hb dX9_test__144 (by decide) (fun c_577 => ?_) (fun c_577 => absurd (by decide) c_577)
        refine lv_aload_n hx hb dX9_test__148 rfl (lv_at hl 4 rfl) ?_
        refine lv_bipush (v := 13) hx hb dX9_test__149 (by decide) ?_
        have hFc := free_all hD hS hA
        refine va_callv (va_runV (As := [.int 13]) (rest := []) ⟨hx, hb, hml, hown, hts⟩ (m_add l D h0 ad cs (upd (upd (upd iv 21 (nI 0)) 22 p22_565) 25 (nI k25_566)) fv gv n14 n30 13 H.size h14 h30 (by omega) (by omega)) (cwV 1 hts gX9_test__X9_add rfl rfl rfl (by decide +kernel) ⟨Nat.le_of_ble_eq_true rfl, Nat.le_of_ble_eq_true rfl⟩) ⟨fun a U g mk q => by obtain ⟨q0, q1, qP, qK, qD⟩ := q; exact ⟨q0, q1, qP, va_K.moved (u := U) (U := U.calling g mk a) (Vm.Alike.refl U.vm) qK, qD⟩, va_recv hK hP (ci := 9) (q0 := 0) rfl rfl, fun U hU hW => ⟨rfl, by rw [hU], by rw [hU]; exact hP, va_K.moved hW.alike hK, hD.weaken (fun _ _ _ _ => trivial)⟩⟩ rfl rfl hl.1 rfl (lv_room (Nat.le_of_ble_eq_true rfl)) dX9_test__151 ⟨Nat.le_of_ble_eq_true rfl, Nat.le_of_ble_eq_true rfl⟩) hS (fun q _ h => hFc q h) hFc (fun u t H1 locs ht hvm w_579 hB hz1 hk1 hS => ?_)
        obtain ⟨f19_580, q_581, hP1, hK1, hD1⟩ := hB
        replace q_581 : f19_580 = upd ((fv 19)) (200 * n14 + n30) 13 := q_581
        rw [ht] at hP1
        have hK := va_K.moved hvm.symm hK1
        generalize H1 = H at hP1 hS ⊢
        have hP : va_P D vwCl (mw h0 ad cs (upd (upd (upd (upd iv 21 (nI 0)) 22 p22_565) 25 (nI k25_566)) 30 (nI (n30 + 1))) (uF fv 19 f19_580) gv) H := hP1
        have hD : va_D A (mw h0 ad cs (upd (upd (upd (upd iv 21 (nI 0)) 22 p22_565) 25 (nI k25_566)) 30 (nI (n30 + 1))) (uF fv 19 f19_580) gv) := hD1.weaken (fun _ _ _ h => hFc _ h)
        refine lv_aload_n hx hb dX9_test__154 rfl (lv_at hl 4 rfl) ?_
        refine lv_iload_n hx hb dX9_test__155 rfl (lv_at hl 2 rfl) ?_
        have hFc := free_all hD hS hA
        refine va_callv (va_runV (As := [.int 0]) (rest := []) ⟨hx, hb, hml, hown, hts⟩ (m_add l D h0 ad cs (upd (upd (upd (upd iv 21 (nI 0)) 22 p22_565) 25 (nI k25_566)) 30 (nI (n30 + 1))) (uF fv 19 f19_580) gv n14 (n30 + 1) 0 H.size h14 rfl (by omega) (by omega)) (cwV 1 hts gX9_test__X9_add rfl rfl rfl (by decide +kernel) ⟨Nat.le_of_ble_eq_true rfl, Nat.le_of_ble_eq_true rfl⟩) ⟨fun a U g mk q => by obtain ⟨q0, q1, qP, qK, qD⟩ := q; exact ⟨q0, q1, qP, va_K.moved (u := U) (U := U.calling g mk a) (Vm.Alike.refl U.vm) qK, qD⟩, va_recv hK hP (ci := 9) (q0 := 0) rfl rfl, fun U hU hW => ⟨rfl, by rw [hU], by rw [hU]; exact hP, va_K.moved hW.alike hK, hD.weaken (fun _ _ _ _ => trivial)⟩⟩ rfl rfl hl.1 rfl (lv_room (Nat.le_of_ble_eq_true rfl)) dX9_test__156 ⟨Nat.le_of_ble_eq_true rfl, Nat.le_of_ble_eq_true rfl⟩) hS (fun q _ h => hFc q h) hFc (fun u t H1 locs ht hvm w_583 hB hz1 hk1 hS => ?_)
        obtain ⟨f19_584, q_585, hP1, hK1, hD1⟩ := hB
        replace q_585 : f19_584 = upd ((f19_580)) (200 * n14 + (n30 + 1)) 0 := q_585
        rw [ht] at hP1
        have hK := va_K.moved hvm.symm hK1
        generalize H1 = H at hP1 hS ⊢
        have hP : va_P D vwCl (mw h0 ad cs (upd (upd (upd (upd iv 21 (nI 0)) 22 p22_565) 25 (nI k25_566)) 30 (nI ((n30 + 1) + 1))) (uF fv 19 f19_584) gv) H := hP1
        have hD : va_D A (mw h0 ad cs (upd (upd (upd (upd iv 21 (nI 0)) 22 p22_565) 25 (nI k25_566)) 30 (nI ((n30 + 1) + 1))) (uF fv 19 f19_584) gv) := hD1.weaken (fun _ _ _ h => hFc _ h)
        refine lv_aload_n hx hb dX9_test__159 rfl (lv_at hl 4 rfl) ?_
        refine lv_iload_n hx hb dX9_test__160 rfl (lv_at hl 1 rfl) ?_
        have hFc := free_all hD hS hA
        refine va_callv (va_runV (As := [.int (nI c_505)]) (rest := []) ⟨hx, hb, hml, hown, hts⟩ (m_add l D h0 ad cs (upd (upd (upd (upd iv 21 (nI 0)) 22 p22_565) 25 (nI k25_566)) 30 (nI ((n30 + 1) + 1))) (uF fv 19 f19_584) gv n14 ((n30 + 1) + 1) (nI c_505) H.size h14 rfl (by omega) (by omega)) (cwV 1 hts gX9_test__X9_add rfl rfl rfl (by decide +kernel) ⟨Nat.le_of_ble_eq_true rfl, Nat.le_of_ble_eq_true rfl⟩) ⟨fun a U g mk q => by obtain ⟨q0, q1, qP, qK, qD⟩ := q; exact ⟨q0, q1, qP, va_K.moved (u := U) (U := U.calling g mk a) (Vm.Alike.refl U.vm) qK, qD⟩, va_recv hK hP (ci := 9) (q0 := 0) rfl rfl, fun U hU hW => ⟨rfl, by rw [hU], by rw [hU]; exact hP, va_K.moved hW.alike hK, hD.weaken (fun _ _ _ _ => trivial)⟩⟩ rfl rfl hl.1 rfl (lv_room (Nat.le_of_ble_eq_true rfl)) dX9_test__161 ⟨Nat.le_of_ble_eq_true rfl, Nat.le_of_ble_eq_true rfl⟩) hS (fun q _ h => hFc q h) hFc (fun u t H1 locs ht hvm w_587 hB hz1 hk1 hS => ?_)
        obtain ⟨f19_588, q_589, hP1, hK1, hD1⟩ := hB
        replace q_589 : f19_588 = upd ((f19_584)) (200 * n14 + ((n30 + 1) + 1)) (nI c_505) := q_589
        rw [ht] at hP1
        have hK := va_K.moved hvm.symm hK1
        generalize H1 = H at hP1 hS ⊢
        have hP : va_P D vwCl (mw h0 ad cs (upd (upd (upd (upd iv 21 (nI 0)) 22 p22_565) 25 (nI k25_566)) 30 (nI (((n30 + 1) + 1) + 1))) (uF fv 19 f19_588) gv) H := hP1
        have hD : va_D A (mw h0 ad cs (upd (upd (upd (upd iv 21 (nI 0)) 22 p22_565) 25 (nI k25_566)) 30 (nI (((n30 + 1) + 1) + 1))) (uF fv 19 f19_588) gv) := hD1.weaken (fun _ _ _ h => hFc _ h)
        refine lv_aload_n hx hb dX9_test__164 rfl (lv_at hl 4 rfl) ?_
        refine lv_iload hx hb dX9_test__165 (lv_at hl 0 rfl) ?_
        have hFc := free_all hD hS hA
        refine va_callv (va_runV (As := [.int (nI v_574)]) (rest := []) ⟨hx, hb, hml, hown, hts⟩ (m_add l D h0 ad cs (upd (upd (upd (upd iv 21 (nI 0)) 22 p22_565) 25 (nI k25_566)) 30 (nI (((n30 + 1) + 1) + 1))) (uF fv 19 f19_588) gv n14 (((n30 + 1) + 1) + 1) (nI v_574) H.size h14 rfl (by omega) (by omega)) (cwV 1 hts gX9_test__X9_add rfl rfl rfl (by decide +kernel) ⟨Nat.le_of_ble_eq_true rfl, Nat.le_of_ble_eq_true rfl⟩) ⟨fun a U g mk q => by obtain ⟨q0, q1, qP, qK, qD⟩ := q; exact ⟨q0, q1, qP, va_K.moved (u := U) (U := U.calling g mk a) (Vm.Alike.refl U.vm) qK, qD⟩, va_recv hK hP (ci := 9) (q0 := 0) rfl rfl, fun U hU hW => ⟨rfl, by rw [hU], by rw [hU]; exact hP, va_K.moved hW.alike hK, hD.weaken (fun _ _ _ _ => trivial)⟩⟩ rfl rfl hl.1 rfl (lv_room (Nat.le_of_ble_eq_true rfl)) dX9_test__167 ⟨Nat.le_of_ble_eq_true rfl, Nat.le_of_ble_eq_true rfl⟩) hS (fun q _ h => hFc q h) hFc (fun u t H1 locs ht hvm w_591 hB hz1 hk1 hS => ?_)
        obtain ⟨f19_592, q_593, hP1, hK1, hD1⟩ := hB
        replace q_593 : f19_592 = upd ((f19_588)) (200 * n14 + (((n30 + 1) + 1) + 1)) (nI v_574) := q_593
        rw [ht] at hP1
        have hK := va_K.moved hvm.symm hK1
        generalize H1 = H at hP1 hS ⊢
        have hP : va_P D vwCl (mw h0 ad cs (upd (upd (upd (upd iv 21 (nI 0)) 22 p22_565) 25 (nI k25_566)) 30 (nI ((((n30 + 1) + 1) + 1) + 1))) (uF fv 19 f19_592) gv) H := hP1
        have hD : va_D A (mw h0 ad cs (upd (upd (upd (upd iv 21 (nI 0)) 22 p22_565) 25 (nI k25_566)) 30 (nI ((((n30 + 1) + 1) + 1) + 1))) (uF fv 19 f19_592) gv) := hD1.weaken (fun _ _ _ h => hFc _ h)
        have hP : va_P D vwCl (mw h0 ad cs (upd (upd (upd (upd iv 21 (nI 0)) 22 p22_565) 25 (nI k25_566)) 30 (nI ((((n30 + 1) + 1) + 1) + 1))) (uF fv 19 f19_592) gv) H := hP
        have hD : va_D A (mw h0 ad cs (upd (upd (upd (upd iv 21 (nI 0)) 22 p22_565) 25 (nI k25_566)) 30 (nI ((((n30 + 1) + 1) + 1) + 1))) (uF fv 19 f19_592) gv) := hD
        exact W.vret hx hb hr (fun t ht hW => ⟨⟨(), rfl, trivial, 0, p22_565, k25_566, (((n30 + 1) + 1) + 1) + 1, f19_592, by omega, by omega, by omega, Or.inr ⟨by omega, by omega, by omega, fun i h9 => by rw [q_593, up_ne (by omega), q_589, up_ne (by omega), q_585, up_ne (by omega), q_581, up_ne (by omega)], by rw [q_593, up_ne (by omega), q_589, up_ne (by omega), q_585, up_ne (by omega), q_581, up_eq], by rw [q_593, up_ne (by omega), q_589, up_ne (by omega), q_585, up_eq]; exact ⟨0, by omega, rfl⟩⟩, by rw [ht]; exact hP, va_K.moved hW.alike hK, hD⟩, hS.F ht⟩) hS.2.2 dX9_test__170
      have d_594 := n_ne (a := c_505) (b := 10) (by omega) (by omega) c_556
      refine lv_aload_n hx hb dX9_test__113 rfl (lv_at hl 3 rfl) ?_
      refine lv_iconst (v := 1) hx hb dX9_test__114 (by decide) ?_
      refine lv_aload_n hx hb dX9_test__115 rfl (lv_at hl 3 rfl) ?_
      refine va_get (D := D) (ci := 9) (v := .int (nI k25_500)) (C := RX9) (T := TX9) (N := 44) hx hb hts hin9 hown hK hP 0 rfl rfl 25 (by decide) (hts (.fieldLink RX9 87 "HoneyHouseModel" "at" "I") (List.mem_of_getElem? (i := 1) rfl)) (fun _ h9 => h9) rfl dX9_test__116 ?_
      have hFc := free_all hD hS hA
      refine va_callv (va_runV (As := [.int 1, .int (nI k25_500)]) (rest := []) ⟨hx, hb, hml, hown, hts⟩ (m_blame l D h0 ad cs (upd iv 25 (nI k25_500)) fv gv n21 1 (nI k25_500) H.size h21 (by omega) (by omega)) (cwV 2 hts gX9_test__X9_blame rfl rfl rfl (by decide +kernel) ⟨Nat.le_of_ble_eq_true rfl, Nat.le_of_ble_eq_true rfl⟩) ⟨fun a U g mk q => by obtain ⟨q0, q1, qP, qK, qD⟩ := q; exact ⟨q0, q1, qP, va_K.moved (u := U) (U := U.calling g mk a) (Vm.Alike.refl U.vm) qK, qD⟩, va_recv hK hP (ci := 9) (q0 := 0) rfl rfl, fun U hU hW => ⟨rfl, by rw [hU], by rw [hU]; exact hP, va_K.moved hW.alike hK, hD.weaken (fun _ _ _ _ => trivial)⟩⟩ rfl rfl hl.1 rfl (lv_room (Nat.le_of_ble_eq_true rfl)) dX9_test__119 ⟨Nat.le_of_ble_eq_true rfl, Nat.le_of_ble_eq_true rfl⟩) hS (fun q _ h => hFc q h) hFc (fun u t H1 locs ht hvm w_596 hB hz1 hk1 hS => ?_)
      obtain ⟨k21_597, p22_598, q_599, q_600, hP1, hK1, hD1⟩ := hB
      rw [ht] at hP1
      have hK := va_K.moved hvm.symm hK1
      generalize H1 = H at hP1 hS ⊢
      have hP : va_P D vwCl (mw h0 ad cs (upd (upd (upd iv 21 (nI k21_597)) 22 p22_598) 25 (nI k25_500)) fv gv) H := hP1
      have hD : va_D A (mw h0 ad cs (upd (upd (upd iv 21 (nI k21_597)) 22 p22_598) 25 (nI k25_500)) fv gv) := hD1.weaken (fun _ _ _ h => hFc _ h)
      have hP : va_P D vwCl (mw h0 ad cs (upd (upd (upd (upd iv 21 (nI k21_597)) 22 p22_598) 25 (nI k25_500)) 30 (iv 30)) (uF fv 19 (fv 19)) gv) H := hP
      have hD : va_D A (mw h0 ad cs (upd (upd (upd (upd iv 21 (nI k21_597)) 22 p22_598) 25 (nI k25_500)) 30 (iv 30)) (uF fv 19 (fv 19)) gv) := hD
      have hP := hP
      rw [h30] at hP hD
      exact W.vret hx hb hr (fun t ht hW => ⟨⟨(), rfl, trivial, k21_597, p22_598, k25_500, n30, fv 19, by omega, by omega, by omega, Or.inl ⟨by omega, by omega, rfl⟩, by rw [ht]; exact hP, va_K.moved hW.alike hK, hD⟩, hS.F ht⟩) hS.2.2 dX9_test__122
    have d_601 := n_nle (a := n21) (b := 0) (by omega) (by omega) c_496
    have hP : va_P D vwCl (mw h0 ad cs (upd (upd (upd (upd iv 21 (iv 21)) 22 (iv 22)) 25 (nI e_32)) 30 (iv 30)) (uF fv 19 (fv 19)) gv) H := hP
    have hD : va_D A (mw h0 ad cs (upd (upd (upd (upd iv 21 (iv 21)) 22 (iv 22)) 25 (nI e_32)) 30 (iv 30)) (uF fv 19 (fv 19)) gv) := hD
    have hP := hP
    have hP := hP
    rw [h21, h30] at hP hD
    exact W.vret hx hb hr (fun t ht hW => ⟨⟨(), rfl, trivial, n21, iv 22, e_32, n30, fv 19, by omega, by omega, by omega, Or.inl ⟨by omega, by omega, rfl⟩, by rw [ht]; exact hP, va_K.moved hW.alike hK, hD⟩, hS.F ht⟩) hS.2.2 dX9_test__95
  have d_602 := n_nle (a := c_8) (b := 8) (by omega) (by omega) c_28
  refine lv_aload_n hx hb dX9_test__16 rfl (lv_at hl 1 rfl) ?_
  refine lv_iconst (v := 1) hx hb dX9_test__17 (by decide) ?_
  refine lv_aload_n hx hb dX9_test__18 rfl (lv_at hl 1 rfl) ?_
  refine va_get (D := D) (ci := 9) (v := .int (nI k25_3)) (C := RX9) (T := TX9) (N := 44) hx hb hts hin9 hown hK hP 0 rfl rfl 25 (by decide) (hts (.fieldLink RX9 87 "HoneyHouseModel" "at" "I") (List.mem_of_getElem? (i := 1) rfl)) (fun _ h9 => h9) rfl dX9_test__19 ?_
  have hFc := free_all hD hS hA
  refine va_callv (va_runV (As := [.int 1, .int (nI k25_3)]) (rest := []) ⟨hx, hb, hml, hown, hts⟩ (m_blame l D h0 ad cs (upd iv 25 (nI k25_3)) fv gv n21 1 (nI k25_3) H.size h21 (by omega) (by omega)) (cwV 2 hts gX9_test__X9_blame rfl rfl rfl (by decide +kernel) ⟨Nat.le_of_ble_eq_true rfl, Nat.le_of_ble_eq_true rfl⟩) ⟨fun a U g mk q => by obtain ⟨q0, q1, qP, qK, qD⟩ := q; exact ⟨q0, q1, qP, va_K.moved (u := U) (U := U.calling g mk a) (Vm.Alike.refl U.vm) qK, qD⟩, va_recv hK hP (ci := 9) (q0 := 0) rfl rfl, fun U hU hW => ⟨rfl, by rw [hU], by rw [hU]; exact hP, va_K.moved hW.alike hK, hD.weaken (fun _ _ _ _ => trivial)⟩⟩ rfl rfl hl.1 rfl (lv_room (Nat.le_of_ble_eq_true rfl)) dX9_test__22 ⟨Nat.le_of_ble_eq_true rfl, Nat.le_of_ble_eq_true rfl⟩) hS (fun q _ h => hFc q h) hFc (fun u t H1 locs ht hvm w_604 hB hz1 hk1 hS => ?_)
  obtain ⟨k21_605, p22_606, q_607, q_608, hP1, hK1, hD1⟩ := hB
  rw [ht] at hP1
  have hK := va_K.moved hvm.symm hK1
  generalize H1 = H at hP1 hS ⊢
  have hP : va_P D vwCl (mw h0 ad cs (upd (upd (upd iv 21 (nI k21_605)) 22 p22_606) 25 (nI k25_3)) fv gv) H := hP1
  have hD : va_D A (mw h0 ad cs (upd (upd (upd iv 21 (nI k21_605)) 22 p22_606) 25 (nI k25_3)) fv gv) := hD1.weaken (fun _ _ _ h => hFc _ h)
  have hP : va_P D vwCl (mw h0 ad cs (upd (upd (upd (upd iv 21 (nI k21_605)) 22 p22_606) 25 (nI k25_3)) 30 (iv 30)) (uF fv 19 (fv 19)) gv) H := hP
  have hD : va_D A (mw h0 ad cs (upd (upd (upd (upd iv 21 (nI k21_605)) 22 p22_606) 25 (nI k25_3)) 30 (iv 30)) (uF fv 19 (fv 19)) gv) := hD
  have hP := hP
  rw [h30] at hP hD
  exact W.vret hx hb hr (fun t ht hW => ⟨⟨(), rfl, trivial, k21_605, p22_606, k25_3, n30, fv 19, by omega, by omega, by omega, Or.inl ⟨by omega, by omega, rfl⟩, by rw [ht]; exact hP, va_K.moved hW.alike hK, hD⟩, hS.F ht⟩) hS.2.2 dX9_test__25
