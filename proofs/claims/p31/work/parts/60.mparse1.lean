theorem dX9_number_0 : decode cX9_number 0 = .ok (.aload_n 0, 1) := by decide +kernel
theorem dX9_number_1 : decode cX9_number 1 = .ok (.invokevirtual 191, 3) := by decide +kernel
theorem dX9_number_4 : decode cX9_number 4 = .ok (.invokestatic 235, 3) := by decide +kernel
theorem dX9_number_7 : decode cX9_number 7 = .ok (.ifCond .ne 14, 3) := by decide +kernel
theorem dX9_number_10 : decode cX9_number 10 = .ok (.aload_n 0, 1) := by decide +kernel
theorem dX9_number_11 : decode cX9_number 11 = .ok (.iconst 1, 1) := by decide +kernel
theorem dX9_number_12 : decode cX9_number 12 = .ok (.aload_n 0, 1) := by decide +kernel
theorem dX9_number_13 : decode cX9_number 13 = .ok (.getfield 87, 3) := by decide +kernel
theorem dX9_number_16 : decode cX9_number 16 = .ok (.invokevirtual 195, 3) := by decide +kernel
theorem dX9_number_19 : decode cX9_number 19 = .ok (.iconst 0, 1) := by decide +kernel
theorem dX9_number_20 : decode cX9_number 20 = .ok (.ireturn, 1) := by decide +kernel
theorem dX9_number_21 : decode cX9_number 21 = .ok (.aload_n 0, 1) := by decide +kernel
theorem dX9_number_22 : decode cX9_number 22 = .ok (.getfield 87, 3) := by decide +kernel
theorem dX9_number_25 : decode cX9_number 25 = .ok (.istore_n 2, 1) := by decide +kernel
theorem dX9_number_26 : decode cX9_number 26 = .ok (.iconst 0, 1) := by decide +kernel
theorem dX9_number_27 : decode cX9_number 27 = .ok (.istore_n 3, 1) := by decide +kernel
theorem dX9_number_28 : decode cX9_number 28 = .ok (.iconst 0, 1) := by decide +kernel
theorem dX9_number_29 : decode cX9_number 29 = .ok (.istore 4, 2) := by decide +kernel
theorem dX9_number_31 : decode cX9_number 31 = .ok (.aload_n 0, 1) := by decide +kernel
theorem dX9_number_32 : decode cX9_number 32 = .ok (.getfield 87, 3) := by decide +kernel
theorem dX9_number_35 : decode cX9_number 35 = .ok (.aload_n 0, 1) := by decide +kernel
theorem dX9_number_36 : decode cX9_number 36 = .ok (.getfield 90, 3) := by decide +kernel
theorem dX9_number_39 : decode cX9_number 39 = .ok (.if_icmp .ge 74, 3) := by decide +kernel
theorem dX9_number_42 : decode cX9_number 42 = .ok (.aload_n 0, 1) := by decide +kernel
theorem dX9_number_43 : decode cX9_number 43 = .ok (.getfield 7, 3) := by decide +kernel
theorem dX9_number_46 : decode cX9_number 46 = .ok (.aload_n 0, 1) := by decide +kernel
theorem dX9_number_47 : decode cX9_number 47 = .ok (.getfield 87, 3) := by decide +kernel
theorem dX9_number_50 : decode cX9_number 50 = .ok (.iaload, 1) := by decide +kernel
theorem dX9_number_51 : decode cX9_number 51 = .ok (.invokestatic 235, 3) := by decide +kernel
theorem dX9_number_54 : decode cX9_number 54 = .ok (.ifCond .eq 59, 3) := by decide +kernel
theorem dX9_number_57 : decode cX9_number 57 = .ok (.aload_n 0, 1) := by decide +kernel
theorem dX9_number_58 : decode cX9_number 58 = .ok (.getfield 74, 3) := by decide +kernel
theorem dX9_number_61 : decode cX9_number 61 = .ok (.ifCond .ne 52, 3) := by decide +kernel
theorem dX9_number_64 : decode cX9_number 64 = .ok (.iload 4, 2) := by decide +kernel
theorem dX9_number_66 : decode cX9_number 66 = .ok (.iconst 5, 1) := by decide +kernel
theorem dX9_number_67 : decode cX9_number 67 = .ok (.if_icmp .ne 12, 3) := by decide +kernel
theorem dX9_number_70 : decode cX9_number 70 = .ok (.aload_n 0, 1) := by decide +kernel
theorem dX9_number_71 : decode cX9_number 71 = .ok (.iconst 1, 1) := by decide +kernel
theorem dX9_number_72 : decode cX9_number 72 = .ok (.aload_n 0, 1) := by decide +kernel
theorem dX9_number_73 : decode cX9_number 73 = .ok (.getfield 87, 3) := by decide +kernel
theorem dX9_number_76 : decode cX9_number 76 = .ok (.invokevirtual 195, 3) := by decide +kernel
theorem dX9_number_79 : decode cX9_number 79 = .ok (.bipush 10, 2) := by decide +kernel
theorem dX9_number_81 : decode cX9_number 81 = .ok (.iload_n 3, 1) := by decide +kernel
theorem dX9_number_82 : decode cX9_number 82 = .ok (.imul, 1) := by decide +kernel
theorem dX9_number_83 : decode cX9_number 83 = .ok (.aload_n 0, 1) := by decide +kernel
theorem dX9_number_84 : decode cX9_number 84 = .ok (.getfield 7, 3) := by decide +kernel
theorem dX9_number_87 : decode cX9_number 87 = .ok (.aload_n 0, 1) := by decide +kernel
theorem dX9_number_88 : decode cX9_number 88 = .ok (.getfield 87, 3) := by decide +kernel
theorem dX9_number_91 : decode cX9_number 91 = .ok (.iaload, 1) := by decide +kernel
theorem dX9_number_92 : decode cX9_number 92 = .ok (.iadd, 1) := by decide +kernel
theorem dX9_number_93 : decode cX9_number 93 = .ok (.bipush 48, 2) := by decide +kernel
theorem dX9_number_95 : decode cX9_number 95 = .ok (.isub, 1) := by decide +kernel
theorem dX9_number_96 : decode cX9_number 96 = .ok (.istore_n 3, 1) := by decide +kernel
theorem dX9_number_97 : decode cX9_number 97 = .ok (.aload_n 0, 1) := by decide +kernel
theorem dX9_number_98 : decode cX9_number 98 = .ok (.dup, 1) := by decide +kernel
theorem dX9_number_99 : decode cX9_number 99 = .ok (.getfield 87, 3) := by decide +kernel
theorem dX9_number_102 : decode cX9_number 102 = .ok (.iconst 1, 1) := by decide +kernel
theorem dX9_number_103 : decode cX9_number 103 = .ok (.iadd, 1) := by decide +kernel
theorem dX9_number_104 : decode cX9_number 104 = .ok (.putfield 87, 3) := by decide +kernel
theorem dX9_number_107 : decode cX9_number 107 = .ok (.iinc 4 1, 3) := by decide +kernel
theorem dX9_number_110 : decode cX9_number 110 = .ok (.goto (-79), 3) := by decide +kernel
theorem dX9_number_113 : decode cX9_number 113 = .ok (.iload_n 3, 1) := by decide +kernel
theorem dX9_number_114 : decode cX9_number 114 = .ok (.iload_n 1, 1) := by decide +kernel
theorem dX9_number_115 : decode cX9_number 115 = .ok (.if_icmp .le 9, 3) := by decide +kernel
theorem dX9_number_118 : decode cX9_number 118 = .ok (.aload_n 0, 1) := by decide +kernel
theorem dX9_number_119 : decode cX9_number 119 = .ok (.iconst 2, 1) := by decide +kernel
theorem dX9_number_120 : decode cX9_number 120 = .ok (.iload_n 2, 1) := by decide +kernel
theorem dX9_number_121 : decode cX9_number 121 = .ok (.invokevirtual 195, 3) := by decide +kernel
theorem dX9_number_124 : decode cX9_number 124 = .ok (.iload_n 3, 1) := by decide +kernel
theorem dX9_number_125 : decode cX9_number 125 = .ok (.ireturn, 1) := by decide +kernel
theorem dX9_name_0 : decode cX9_name 0 = .ok (.aload_n 0, 1) := by decide +kernel
theorem dX9_name_1 : decode cX9_name 1 = .ok (.invokevirtual 191, 3) := by decide +kernel
theorem dX9_name_4 : decode cX9_name 4 = .ok (.invokestatic 226, 3) := by decide +kernel
theorem dX9_name_7 : decode cX9_name 7 = .ok (.ifCond .ne 13, 3) := by decide +kernel
theorem dX9_name_10 : decode cX9_name 10 = .ok (.aload_n 0, 1) := by decide +kernel
theorem dX9_name_11 : decode cX9_name 11 = .ok (.iconst 1, 1) := by decide +kernel
theorem dX9_name_12 : decode cX9_name 12 = .ok (.aload_n 0, 1) := by decide +kernel
theorem dX9_name_13 : decode cX9_name 13 = .ok (.getfield 87, 3) := by decide +kernel
theorem dX9_name_16 : decode cX9_name 16 = .ok (.invokevirtual 195, 3) := by decide +kernel
theorem dX9_name_19 : decode cX9_name 19 = .ok (.return_, 1) := by decide +kernel
theorem dX9_name_20 : decode cX9_name 20 = .ok (.aload_n 0, 1) := by decide +kernel
theorem dX9_name_21 : decode cX9_name 21 = .ok (.invokevirtual 229, 3) := by decide +kernel
theorem dX9_name_24 : decode cX9_name 24 = .ok (.istore_n 1, 1) := by decide +kernel
theorem dX9_name_25 : decode cX9_name 25 = .ok (.aload_n 0, 1) := by decide +kernel
theorem dX9_name_26 : decode cX9_name 26 = .ok (.iload_n 1, 1) := by decide +kernel
theorem dX9_name_27 : decode cX9_name 27 = .ok (.invokevirtual 232, 3) := by decide +kernel
theorem dX9_name_30 : decode cX9_name 30 = .ok (.bipush 11, 2) := by decide +kernel
theorem dX9_name_32 : decode cX9_name 32 = .ok (.if_icmp .eq 12, 3) := by decide +kernel
theorem dX9_name_35 : decode cX9_name 35 = .ok (.aload_n 0, 1) := by decide +kernel
theorem dX9_name_36 : decode cX9_name 36 = .ok (.iconst 1, 1) := by decide +kernel
theorem dX9_name_37 : decode cX9_name 37 = .ok (.aload_n 0, 1) := by decide +kernel
theorem dX9_name_38 : decode cX9_name 38 = .ok (.getfield 87, 3) := by decide +kernel
theorem dX9_name_41 : decode cX9_name 41 = .ok (.invokevirtual 195, 3) := by decide +kernel
theorem dX9_name_44 : decode cX9_name 44 = .ok (.iload_n 1, 1) := by decide +kernel
theorem dX9_name_45 : decode cX9_name 45 = .ok (.aload_n 0, 1) := by decide +kernel
theorem dX9_name_46 : decode cX9_name 46 = .ok (.getfield 87, 3) := by decide +kernel
theorem dX9_name_49 : decode cX9_name 49 = .ok (.isub, 1) := by decide +kernel
theorem dX9_name_50 : decode cX9_name 50 = .ok (.bipush 12, 2) := by decide +kernel
theorem dX9_name_52 : decode cX9_name 52 = .ok (.if_icmp .le 15, 3) := by decide +kernel
theorem dX9_name_55 : decode cX9_name 55 = .ok (.aload_n 0, 1) := by decide +kernel
theorem dX9_name_56 : decode cX9_name 56 = .ok (.iconst 1, 1) := by decide +kernel
theorem dX9_name_57 : decode cX9_name 57 = .ok (.aload_n 0, 1) := by decide +kernel
theorem dX9_name_58 : decode cX9_name 58 = .ok (.getfield 87, 3) := by decide +kernel
theorem dX9_name_61 : decode cX9_name 61 = .ok (.bipush 12, 2) := by decide +kernel
theorem dX9_name_63 : decode cX9_name 63 = .ok (.iadd, 1) := by decide +kernel
theorem dX9_name_64 : decode cX9_name 64 = .ok (.invokevirtual 195, 3) := by decide +kernel
theorem dX9_name_67 : decode cX9_name 67 = .ok (.aload_n 0, 1) := by decide +kernel
theorem dX9_name_68 : decode cX9_name 68 = .ok (.getfield 74, 3) := by decide +kernel
theorem dX9_name_71 : decode cX9_name 71 = .ok (.ifCond .le 4, 3) := by decide +kernel
theorem dX9_name_74 : decode cX9_name 74 = .ok (.return_, 1) := by decide +kernel
theorem dX9_name_75 : decode cX9_name 75 = .ok (.aload_n 0, 1) := by decide +kernel
theorem dX9_name_76 : decode cX9_name 76 = .ok (.getfield 59, 3) := by decide +kernel
theorem dX9_name_79 : decode cX9_name 79 = .ok (.aload_n 0, 1) := by decide +kernel
theorem dX9_name_80 : decode cX9_name 80 = .ok (.getfield 53, 3) := by decide +kernel
theorem dX9_name_83 : decode cX9_name 83 = .ok (.iload_n 1, 1) := by decide +kernel
theorem dX9_name_84 : decode cX9_name 84 = .ok (.aload_n 0, 1) := by decide +kernel
theorem dX9_name_85 : decode cX9_name 85 = .ok (.getfield 87, 3) := by decide +kernel
theorem dX9_name_88 : decode cX9_name 88 = .ok (.isub, 1) := by decide +kernel
theorem dX9_name_89 : decode cX9_name 89 = .ok (.iastore, 1) := by decide +kernel
theorem dX9_name_90 : decode cX9_name 90 = .ok (.iconst 0, 1) := by decide +kernel
theorem dX9_name_91 : decode cX9_name 91 = .ok (.istore_n 2, 1) := by decide +kernel
theorem dX9_name_92 : decode cX9_name 92 = .ok (.aload_n 0, 1) := by decide +kernel
theorem dX9_name_93 : decode cX9_name 93 = .ok (.getfield 87, 3) := by decide +kernel
theorem dX9_name_96 : decode cX9_name 96 = .ok (.iload_n 1, 1) := by decide +kernel
theorem dX9_name_97 : decode cX9_name 97 = .ok (.if_icmp .ge 42, 3) := by decide +kernel
theorem dX9_name_100 : decode cX9_name 100 = .ok (.aload_n 0, 1) := by decide +kernel
theorem dX9_name_101 : decode cX9_name 101 = .ok (.getfield 56, 3) := by decide +kernel
theorem dX9_name_104 : decode cX9_name 104 = .ok (.bipush 12, 2) := by decide +kernel
theorem dX9_name_106 : decode cX9_name 106 = .ok (.aload_n 0, 1) := by decide +kernel
theorem dX9_name_107 : decode cX9_name 107 = .ok (.getfield 53, 3) := by decide +kernel
theorem dX9_name_110 : decode cX9_name 110 = .ok (.imul, 1) := by decide +kernel
theorem dX9_name_111 : decode cX9_name 111 = .ok (.iload_n 2, 1) := by decide +kernel
theorem dX9_name_112 : decode cX9_name 112 = .ok (.iadd, 1) := by decide +kernel
theorem dX9_name_113 : decode cX9_name 113 = .ok (.aload_n 0, 1) := by decide +kernel
theorem dX9_name_114 : decode cX9_name 114 = .ok (.getfield 7, 3) := by decide +kernel
theorem dX9_name_117 : decode cX9_name 117 = .ok (.aload_n 0, 1) := by decide +kernel
theorem dX9_name_118 : decode cX9_name 118 = .ok (.getfield 87, 3) := by decide +kernel
theorem dX9_name_121 : decode cX9_name 121 = .ok (.iaload, 1) := by decide +kernel
theorem dX9_name_122 : decode cX9_name 122 = .ok (.iastore, 1) := by decide +kernel
theorem dX9_name_123 : decode cX9_name 123 = .ok (.aload_n 0, 1) := by decide +kernel
theorem dX9_name_124 : decode cX9_name 124 = .ok (.dup, 1) := by decide +kernel
theorem dX9_name_125 : decode cX9_name 125 = .ok (.getfield 87, 3) := by decide +kernel
theorem dX9_name_128 : decode cX9_name 128 = .ok (.iconst 1, 1) := by decide +kernel
theorem dX9_name_129 : decode cX9_name 129 = .ok (.iadd, 1) := by decide +kernel
theorem dX9_name_130 : decode cX9_name 130 = .ok (.putfield 87, 3) := by decide +kernel
theorem dX9_name_133 : decode cX9_name 133 = .ok (.iinc 2 1, 3) := by decide +kernel
theorem dX9_name_136 : decode cX9_name 136 = .ok (.goto (-44), 3) := by decide +kernel
theorem dX9_name_139 : decode cX9_name 139 = .ok (.return_, 1) := by decide +kernel
theorem dX9_add_0 : decode cX9_add 0 = .ok (.aload_n 0, 1) := by decide +kernel
theorem dX9_add_1 : decode cX9_add 1 = .ok (.getfield 68, 3) := by decide +kernel
theorem dX9_add_4 : decode cX9_add 4 = .ok (.sipush 200, 3) := by decide +kernel
theorem dX9_add_7 : decode cX9_add 7 = .ok (.aload_n 0, 1) := by decide +kernel
theorem dX9_add_8 : decode cX9_add 8 = .ok (.getfield 53, 3) := by decide +kernel
theorem dX9_add_11 : decode cX9_add 11 = .ok (.imul, 1) := by decide +kernel
theorem dX9_add_12 : decode cX9_add 12 = .ok (.aload_n 0, 1) := by decide +kernel
theorem dX9_add_13 : decode cX9_add 13 = .ok (.getfield 102, 3) := by decide +kernel
theorem dX9_add_16 : decode cX9_add 16 = .ok (.iadd, 1) := by decide +kernel
theorem dX9_add_17 : decode cX9_add 17 = .ok (.iload_n 1, 1) := by decide +kernel
theorem dX9_add_18 : decode cX9_add 18 = .ok (.iastore, 1) := by decide +kernel
theorem dX9_add_19 : decode cX9_add 19 = .ok (.aload_n 0, 1) := by decide +kernel
theorem dX9_add_20 : decode cX9_add 20 = .ok (.dup, 1) := by decide +kernel
theorem dX9_add_21 : decode cX9_add 21 = .ok (.getfield 102, 3) := by decide +kernel
theorem dX9_add_24 : decode cX9_add 24 = .ok (.iconst 1, 1) := by decide +kernel
theorem dX9_add_25 : decode cX9_add 25 = .ok (.iadd, 1) := by decide +kernel
theorem dX9_add_26 : decode cX9_add 26 = .ok (.putfield 102, 3) := by decide +kernel
theorem dX9_add_29 : decode cX9_add 29 = .ok (.return_, 1) := by decide +kernel
theorem dX9_test__0 : decode cX9_test_ 0 = .ok (.aload_n 0, 1) := by decide +kernel
theorem dX9_test__1 : decode cX9_test_ 1 = .ok (.invokevirtual 238, 3) := by decide +kernel
theorem dX9_test__4 : decode cX9_test_ 4 = .ok (.istore_n 1, 1) := by decide +kernel
theorem dX9_test__5 : decode cX9_test_ 5 = .ok (.iload_n 1, 1) := by decide +kernel
theorem dX9_test__6 : decode cX9_test_ 6 = .ok (.iconst 4, 1) := by decide +kernel
theorem dX9_test__7 : decode cX9_test_ 7 = .ok (.if_icmp .lt 9, 3) := by decide +kernel
theorem dX9_test__10 : decode cX9_test_ 10 = .ok (.iload_n 1, 1) := by decide +kernel
theorem dX9_test__11 : decode cX9_test_ 11 = .ok (.bipush 8, 2) := by decide +kernel
theorem dX9_test__13 : decode cX9_test_ 13 = .ok (.if_icmp .le 13, 3) := by decide +kernel
theorem dX9_test__16 : decode cX9_test_ 16 = .ok (.aload_n 0, 1) := by decide +kernel
theorem dX9_test__17 : decode cX9_test_ 17 = .ok (.iconst 1, 1) := by decide +kernel
theorem dX9_test__18 : decode cX9_test_ 18 = .ok (.aload_n 0, 1) := by decide +kernel
theorem dX9_test__19 : decode cX9_test_ 19 = .ok (.getfield 87, 3) := by decide +kernel
theorem dX9_test__22 : decode cX9_test_ 22 = .ok (.invokevirtual 195, 3) := by decide +kernel
theorem dX9_test__25 : decode cX9_test_ 25 = .ok (.return_, 1) := by decide +kernel
theorem dX9_test__26 : decode cX9_test_ 26 = .ok (.aload_n 0, 1) := by decide +kernel
theorem dX9_test__27 : decode cX9_test_ 27 = .ok (.aload_n 0, 1) := by decide +kernel
theorem dX9_test__28 : decode cX9_test_ 28 = .ok (.invokevirtual 229, 3) := by decide +kernel
theorem dX9_test__31 : decode cX9_test_ 31 = .ok (.putfield 87, 3) := by decide +kernel
theorem dX9_test__34 : decode cX9_test_ 34 = .ok (.iload_n 1, 1) := by decide +kernel
theorem dX9_test__35 : decode cX9_test_ 35 = .ok (.iconst 4, 1) := by decide +kernel
theorem dX9_test__36 : decode cX9_test_ 36 = .ok (.if_icmp .ne 7, 3) := by decide +kernel
theorem dX9_test__39 : decode cX9_test_ 39 = .ok (.iconst 0, 1) := by decide +kernel
theorem dX9_test__40 : decode cX9_test_ 40 = .ok (.goto 47, 3) := by decide +kernel
theorem dX9_test__43 : decode cX9_test_ 43 = .ok (.iload_n 1, 1) := by decide +kernel
theorem dX9_test__44 : decode cX9_test_ 44 = .ok (.iconst 5, 1) := by decide +kernel
theorem dX9_test__45 : decode cX9_test_ 45 = .ok (.if_icmp .ne 7, 3) := by decide +kernel
theorem dX9_test__48 : decode cX9_test_ 48 = .ok (.iconst 1, 1) := by decide +kernel
theorem dX9_test__49 : decode cX9_test_ 49 = .ok (.goto 38, 3) := by decide +kernel
theorem dX9_test__52 : decode cX9_test_ 52 = .ok (.iload_n 1, 1) := by decide +kernel
theorem dX9_test__53 : decode cX9_test_ 53 = .ok (.bipush 6, 2) := by decide +kernel
theorem dX9_test__55 : decode cX9_test_ 55 = .ok (.if_icmp .ne 7, 3) := by decide +kernel
theorem dX9_test__58 : decode cX9_test_ 58 = .ok (.iconst 2, 1) := by decide +kernel
theorem dX9_test__59 : decode cX9_test_ 59 = .ok (.goto 28, 3) := by decide +kernel
theorem dX9_test__62 : decode cX9_test_ 62 = .ok (.iload_n 1, 1) := by decide +kernel
theorem dX9_test__63 : decode cX9_test_ 63 = .ok (.bipush 7, 2) := by decide +kernel
theorem dX9_test__65 : decode cX9_test_ 65 = .ok (.if_icmp .ne 14, 3) := by decide +kernel
theorem dX9_test__68 : decode cX9_test_ 68 = .ok (.bipush 10, 2) := by decide +kernel
theorem dX9_test__70 : decode cX9_test_ 70 = .ok (.aload_n 0, 1) := by decide +kernel
theorem dX9_test__71 : decode cX9_test_ 71 = .ok (.iconst 4, 1) := by decide +kernel
theorem dX9_test__72 : decode cX9_test_ 72 = .ok (.invokevirtual 241, 3) := by decide +kernel
theorem dX9_test__75 : decode cX9_test_ 75 = .ok (.iadd, 1) := by decide +kernel
theorem dX9_test__76 : decode cX9_test_ 76 = .ok (.goto 11, 3) := by decide +kernel
theorem dX9_test__79 : decode cX9_test_ 79 = .ok (.bipush 30, 2) := by decide +kernel
theorem dX9_test__81 : decode cX9_test_ 81 = .ok (.aload_n 0, 1) := by decide +kernel
theorem dX9_test__82 : decode cX9_test_ 82 = .ok (.iconst 3, 1) := by decide +kernel
theorem dX9_test__83 : decode cX9_test_ 83 = .ok (.invokevirtual 241, 3) := by decide +kernel
theorem dX9_test__86 : decode cX9_test_ 86 = .ok (.iadd, 1) := by decide +kernel
theorem dX9_test__87 : decode cX9_test_ 87 = .ok (.istore_n 2, 1) := by decide +kernel
theorem dX9_test__88 : decode cX9_test_ 88 = .ok (.aload_n 0, 1) := by decide +kernel
theorem dX9_test__89 : decode cX9_test_ 89 = .ok (.getfield 74, 3) := by decide +kernel
theorem dX9_test__92 : decode cX9_test_ 92 = .ok (.ifCond .le 4, 3) := by decide +kernel
theorem dX9_test__95 : decode cX9_test_ 95 = .ok (.return_, 1) := by decide +kernel
theorem dX9_test__96 : decode cX9_test_ 96 = .ok (.aload_n 0, 1) := by decide +kernel
theorem dX9_test__97 : decode cX9_test_ 97 = .ok (.invokevirtual 238, 3) := by decide +kernel
theorem dX9_test__100 : decode cX9_test_ 100 = .ok (.istore_n 3, 1) := by decide +kernel
theorem dX9_test__101 : decode cX9_test_ 101 = .ok (.iload_n 3, 1) := by decide +kernel
theorem dX9_test__102 : decode cX9_test_ 102 = .ok (.bipush 9, 2) := by decide +kernel
theorem dX9_test__104 : decode cX9_test_ 104 = .ok (.if_icmp .eq 19, 3) := by decide +kernel
theorem dX9_test__107 : decode cX9_test_ 107 = .ok (.iload_n 3, 1) := by decide +kernel
theorem dX9_test__108 : decode cX9_test_ 108 = .ok (.bipush 10, 2) := by decide +kernel
theorem dX9_test__110 : decode cX9_test_ 110 = .ok (.if_icmp .eq 13, 3) := by decide +kernel
theorem dX9_test__113 : decode cX9_test_ 113 = .ok (.aload_n 0, 1) := by decide +kernel
theorem dX9_test__114 : decode cX9_test_ 114 = .ok (.iconst 1, 1) := by decide +kernel
theorem dX9_test__115 : decode cX9_test_ 115 = .ok (.aload_n 0, 1) := by decide +kernel
theorem dX9_test__116 : decode cX9_test_ 116 = .ok (.getfield 87, 3) := by decide +kernel
theorem dX9_test__119 : decode cX9_test_ 119 = .ok (.invokevirtual 195, 3) := by decide +kernel
theorem dX9_test__122 : decode cX9_test_ 122 = .ok (.return_, 1) := by decide +kernel
theorem dX9_test__123 : decode cX9_test_ 123 = .ok (.aload_n 0, 1) := by decide +kernel
theorem dX9_test__124 : decode cX9_test_ 124 = .ok (.aload_n 0, 1) := by decide +kernel
theorem dX9_test__125 : decode cX9_test_ 125 = .ok (.invokevirtual 229, 3) := by decide +kernel
theorem dX9_test__128 : decode cX9_test_ 128 = .ok (.putfield 87, 3) := by decide +kernel
theorem dX9_test__131 : decode cX9_test_ 131 = .ok (.aload_n 0, 1) := by decide +kernel
theorem dX9_test__132 : decode cX9_test_ 132 = .ok (.sipush 1000, 3) := by decide +kernel
theorem dX9_test__135 : decode cX9_test_ 135 = .ok (.invokevirtual 241, 3) := by decide +kernel
theorem dX9_test__138 : decode cX9_test_ 138 = .ok (.istore 4, 2) := by decide +kernel
theorem dX9_test__140 : decode cX9_test_ 140 = .ok (.aload_n 0, 1) := by decide +kernel
theorem dX9_test__141 : decode cX9_test_ 141 = .ok (.getfield 74, 3) := by decide +kernel
theorem dX9_test__144 : decode cX9_test_ 144 = .ok (.ifCond .le 4, 3) := by decide +kernel
theorem dX9_test__147 : decode cX9_test_ 147 = .ok (.return_, 1) := by decide +kernel
theorem dX9_test__148 : decode cX9_test_ 148 = .ok (.aload_n 0, 1) := by decide +kernel
theorem dX9_test__149 : decode cX9_test_ 149 = .ok (.bipush 13, 2) := by decide +kernel
theorem dX9_test__151 : decode cX9_test_ 151 = .ok (.invokevirtual 244, 3) := by decide +kernel
theorem dX9_test__154 : decode cX9_test_ 154 = .ok (.aload_n 0, 1) := by decide +kernel
theorem dX9_test__155 : decode cX9_test_ 155 = .ok (.iload_n 2, 1) := by decide +kernel
theorem dX9_test__156 : decode cX9_test_ 156 = .ok (.invokevirtual 244, 3) := by decide +kernel
theorem dX9_test__159 : decode cX9_test_ 159 = .ok (.aload_n 0, 1) := by decide +kernel
theorem dX9_test__160 : decode cX9_test_ 160 = .ok (.iload_n 3, 1) := by decide +kernel
theorem dX9_test__161 : decode cX9_test_ 161 = .ok (.invokevirtual 244, 3) := by decide +kernel
theorem dX9_test__164 : decode cX9_test_ 164 = .ok (.aload_n 0, 1) := by decide +kernel
theorem dX9_test__165 : decode cX9_test_ 165 = .ok (.iload 4, 2) := by decide +kernel
theorem dX9_test__167 : decode cX9_test_ 167 = .ok (.invokevirtual 244, 3) := by decide +kernel
theorem dX9_test__170 : decode cX9_test_ 170 = .ok (.return_, 1) := by decide +kernel
set_option maxRecDepth 20000 in
theorem ggX9_number_X9_here : GoodIn wsX9_number wsX9_here := goodIn_r _ [9, 1, 2, 3, 18, 19, 20, 21, 22, 23, 24, 25, 26, 27, 28, 29, 30, 31, 32, 33, 34, 35, 36, 37, 38, 39, 40, 41, 42, 43, 44, 45, 46, 47, 48, 49, 50, 51, 52, 53, 54, 55, 56, 57, 58, 59, 60, 61] rfl (by decide +kernel)
set_option maxRecDepth 20000 in
theorem gX9_number_X9_here : GoodIn wsX9_number (wsV RX9 191 RX9 yX9_here wsX9_here) := goodIn_app (goodIn_of _ (by decide +kernel)) ggX9_number_X9_here
set_option maxRecDepth 20000 in
theorem ggX9_number_X9_isDigit : GoodIn wsX9_number wsX9_isDigit := goodIn_r _ [12] rfl (by decide +kernel)
set_option maxRecDepth 20000 in
theorem gX9_number_X9_isDigit : GoodIn wsX9_number (va_wsS RX9 235 yX9_isDigit wsX9_isDigit) := goodIn_app (goodIn_of _ (by decide +kernel)) ggX9_number_X9_isDigit
set_option maxRecDepth 20000 in
theorem ggX9_number_X9_blame : GoodIn wsX9_number wsX9_blame := goodIn_r _ [16, 4, 17, 18, 19, 20, 21, 22, 23, 24, 25, 26, 27, 28, 29, 30, 31, 32, 33, 34, 35, 36, 37, 38, 39, 40, 41, 42, 43, 44, 45, 46, 47, 48, 49, 50, 51, 52, 53, 54, 55, 56, 57, 58, 59, 60, 61] rfl (by decide +kernel)
set_option maxRecDepth 20000 in
theorem gX9_number_X9_blame : GoodIn wsX9_number (wsV RX9 195 RX9 yX9_blame wsX9_blame) := goodIn_app (goodIn_of _ (by decide +kernel)) ggX9_number_X9_blame
set_option maxRecDepth 20000 in
theorem ggX9_name_X9_here : GoodIn wsX9_name wsX9_here := goodIn_r _ [11, 1, 12, 6, 45, 46, 47, 48, 49, 50, 51, 52, 53, 54, 55, 56, 57, 58, 59, 60, 61, 62, 63, 64, 65, 66, 67, 68, 69, 70, 71, 72, 73, 74, 75, 76, 77, 78, 79, 80, 81, 82, 83, 84, 85, 86, 87, 88] rfl (by decide +kernel)
set_option maxRecDepth 20000 in
theorem gX9_name_X9_here : GoodIn wsX9_name (wsV RX9 191 RX9 yX9_here wsX9_here) := goodIn_app (goodIn_of _ (by decide +kernel)) ggX9_name_X9_here
set_option maxRecDepth 20000 in
theorem ggX9_name_X9_isLetter : GoodIn wsX9_name wsX9_isLetter := goodIn_r _ [15] rfl (by decide +kernel)
set_option maxRecDepth 20000 in
theorem gX9_name_X9_isLetter : GoodIn wsX9_name (va_wsS RX9 226 yX9_isLetter wsX9_isLetter) := goodIn_app (goodIn_of _ (by decide +kernel)) ggX9_name_X9_isLetter
set_option maxRecDepth 20000 in
theorem ggX9_name_X9_blame : GoodIn wsX9_name wsX9_blame := goodIn_r _ [19, 2, 20, 45, 46, 47, 48, 49, 50, 51, 52, 53, 54, 55, 56, 57, 58, 59, 60, 61, 62, 63, 64, 65, 66, 67, 68, 69, 70, 71, 72, 73, 74, 75, 76, 77, 78, 79, 80, 81, 82, 83, 84, 85, 86, 87, 88] rfl (by decide +kernel)
set_option maxRecDepth 20000 in
theorem gX9_name_X9_blame : GoodIn wsX9_name (wsV RX9 195 RX9 yX9_blame wsX9_blame) := goodIn_app (goodIn_of _ (by decide +kernel)) ggX9_name_X9_blame
set_option maxRecDepth 20000 in
theorem ggX9_name_X9_wordEnd : GoodIn wsX9_name wsX9_wordEnd := goodIn_r _ [24, 1, 12, 6, 13, 14, 10, 15, 45, 46, 47, 48, 49, 50, 51, 52, 53, 54, 55, 56, 57, 58, 59, 60, 61, 62, 63, 64, 65, 66, 67, 68, 69, 70, 71, 72, 73, 74, 75, 76, 77, 78, 79, 80, 81, 82, 83, 84, 85, 86, 87, 88] rfl (by decide +kernel)
set_option maxRecDepth 20000 in
theorem gX9_name_X9_wordEnd : GoodIn wsX9_name (wsV RX9 229 RX9 yX9_wordEnd wsX9_wordEnd) := goodIn_app (goodIn_of _ (by decide +kernel)) ggX9_name_X9_wordEnd
set_option maxRecDepth 20000 in
theorem ggX9_name_X9_word : GoodIn wsX9_name wsX9_word := goodIn_r _ [28, 29, 30, 31, 32, 33, 34, 35, 36, 37, 38, 39, 40, 41, 42, 10, 43, 1, 6, 44, 45, 46, 47, 48, 49, 50, 51, 52, 53, 54, 55, 56, 57, 58, 59, 60, 61, 62, 63, 64, 65, 66, 67, 68, 69, 70, 71, 72, 73, 74, 75, 76, 77, 78, 79, 80, 81, 82, 83, 84, 85, 86, 87, 88] rfl (by decide +kernel)
set_option maxRecDepth 20000 in
theorem gX9_name_X9_word : GoodIn wsX9_name (wsV RX9 232 RX9 yX9_word wsX9_word) := goodIn_app (goodIn_of _ (by decide +kernel)) ggX9_name_X9_word
set_option maxRecDepth 20000 in
theorem ggX9_test__X9_peek : GoodIn wsX9_test_ wsX9_peek := goodIn_r _ [7, 8, 9, 10, 6, 11, 1, 12, 13, 14, 15, 16, 17, 18, 19, 20, 21, 22, 23, 24, 25, 26, 27, 28, 29, 30, 31, 32, 33, 34, 35, 36, 37, 38, 39, 40, 60, 61, 62, 63, 64, 65, 66, 67, 68, 69, 70, 71, 72, 73, 74, 75, 76, 77, 78, 79, 80, 81, 82, 83, 84, 85, 86, 87, 88, 89, 90, 91, 92, 93, 94, 95, 96, 97, 98, 99, 100, 101, 102, 103] rfl (by decide +kernel)
set_option maxRecDepth 20000 in
theorem gX9_test__X9_peek : GoodIn wsX9_test_ (wsV RX9 238 RX9 yX9_peek wsX9_peek) := goodIn_app (goodIn_of _ (by decide +kernel)) ggX9_test__X9_peek
set_option maxRecDepth 20000 in
theorem ggX9_test__X9_blame : GoodIn wsX9_test_ wsX9_blame := goodIn_r _ [44, 2, 45, 60, 61, 62, 63, 64, 65, 66, 67, 68, 69, 70, 71, 72, 73, 74, 75, 76, 77, 78, 79, 80, 81, 82, 83, 84, 85, 86, 87, 88, 89, 90, 91, 92, 93, 94, 95, 96, 97, 98, 99, 100, 101, 102, 103] rfl (by decide +kernel)
set_option maxRecDepth 20000 in
theorem gX9_test__X9_blame : GoodIn wsX9_test_ (wsV RX9 195 RX9 yX9_blame wsX9_blame) := goodIn_app (goodIn_of _ (by decide +kernel)) ggX9_test__X9_blame
set_option maxRecDepth 20000 in
theorem ggX9_test__X9_wordEnd : GoodIn wsX9_test_ wsX9_wordEnd := goodIn_r _ [20, 1, 12, 13, 14, 15, 6, 16, 60, 61, 62, 63, 64, 65, 66, 67, 68, 69, 70, 71, 72, 73, 74, 75, 76, 77, 78, 79, 80, 81, 82, 83, 84, 85, 86, 87, 88, 89, 90, 91, 92, 93, 94, 95, 96, 97, 98, 99, 100, 101, 102, 103] rfl (by decide +kernel)
set_option maxRecDepth 20000 in
theorem gX9_test__X9_wordEnd : GoodIn wsX9_test_ (wsV RX9 229 RX9 yX9_wordEnd wsX9_wordEnd) := goodIn_app (goodIn_of _ (by decide +kernel)) ggX9_test__X9_wordEnd
set_option maxRecDepth 20000 in
theorem ggX9_test__X9_number : GoodIn wsX9_test_ wsX9_number := goodIn_r _ [49, 1, 12, 13, 2, 8, 9, 10, 6, 11, 50, 51, 52, 41, 42, 43, 44, 45, 60, 61, 62, 63, 64, 65, 66, 67, 68, 69, 70, 71, 72, 73, 74, 75, 76, 77, 78, 79, 80, 81, 82, 83, 84, 85, 86, 87, 88, 89, 90, 91, 92, 93, 94, 95, 96, 97, 98, 99, 100, 101, 102, 103] rfl (by decide +kernel)
set_option maxRecDepth 20000 in
theorem gX9_test__X9_number : GoodIn wsX9_test_ (wsV RX9 241 RX9 yX9_number wsX9_number) := goodIn_app (goodIn_of _ (by decide +kernel)) ggX9_test__X9_number
set_option maxRecDepth 20000 in
theorem ggX9_test__X9_add : GoodIn wsX9_test_ wsX9_add := goodIn_r _ [56, 57, 58, 59, 60, 61, 62, 63, 64, 65, 66, 67, 68, 69, 70, 71, 72, 73, 74, 75, 76, 77, 78, 79, 80, 81, 82, 83, 84, 85, 86, 87, 88, 89, 90, 91, 92, 93, 94, 95, 96, 97, 98, 99, 100, 101, 102, 103] rfl (by decide +kernel)
set_option maxRecDepth 20000 in
theorem gX9_test__X9_add : GoodIn wsX9_test_ (wsV RX9 244 RX9 yX9_add wsX9_add) := goodIn_app (goodIn_of _ (by decide +kernel)) ggX9_test__X9_add
/-- what number leaves behind -/
def NUX (f : Nat → Int32) (n mo b k : Nat) (p : Int32) (a : Nat) (r : Int32) : Prop := ∃ P v : Nat, numR f n mo b k P v ∧ (k = 0 → skB f n a = P ∧ r = nI v) ∧ (¬ k = 0 → p = nI P)
section NUXS
variable {f : Nat → Int32} {n mo b k a : Nat} {p r : Int32}
theorem NUX.ok (h : NUX f n mo b 0 p a r) : ∃ v : Nat, v ≤ mo ∧ r = nI v ∧ numR f n mo b 0 (skB f n a) v := by
  obtain ⟨P, v, h1, h2, -⟩ := h
  obtain ⟨e1, e2⟩ := h2 rfl
  refine ⟨v, ?_, e2, by rw [e1]; exact h1⟩
  rcases h1 with h1 | h1 | h1 | h1 <;> omega
theorem NUX.no (h : NUX f n mo b k p a r) (hk : ¬ k = 0) : ∃ P : Nat, p = nI P ∧ numR f n mo b k P 0 := by
  obtain ⟨P, v, h1, -, h2⟩ := h
  refine ⟨P, h2 hk, ?_⟩
  rcases h1 with h1 | h1 | h1 | h1
  · exact Or.inl h1
  · exact Or.inr (Or.inl h1)
  · exact Or.inr (Or.inr (Or.inl h1))
  · omega
theorem nu_no {k : Nat} (h : (r = (-1) ∧ k = n) ∨ (k < n ∧ r = f k)) (hl : r < 48 ∨ 57 < r) : ¬ kdF f n k = 2 := by
  intro q
  rcases kdF_c (f := f) (n := n) (b := k) with z | z | z | z
  · omega
  · omega
  · rcases h with h | h
    · omega
    · rw [h.2] at hl; exact hl.elim z.2.2.1.1 z.2.2.1.2
  · omega
theorem dg_n {d : Nat} (h : d ≤ 9) : dgt (nI (48 + d)) := ⟨fun q => by have := n_lt (a := 48 + d) (b := 48) (by omega) (by omega) q; omega, fun q => by have := n_lt (a := 57) (b := 48 + d) (by omega) (by omega) q; omega⟩
theorem nu_0 {r0 p' : Int32} {k' : Nat} (h : (r0 = (-1) ∧ b = n) ∨ (b < n ∧ r0 = f b)) (hl : r0 < 48 ∨ 57 < r0) (hk : k' = 1 ∧ p' = nI b) : NUX f n mo b k' p' a r := ⟨b, 0, Or.inl ⟨nu_no h hl, hk.1, rfl⟩, fun q => by omega, fun _ => hk.2⟩
theorem nu_fin {v nn : Nat} (hs : b < n) (hd : dgt (f b)) (ha : a = b + nn) (han : a ≤ n) (hdg : ∀ i : Nat, b ≤ i → i < a → dgt (f i)) (hvl : v = vlN f b nn) (hkk : (k = 0 ∧ nn ≤ 5) ∨ (k = 1 ∧ nn = 6 ∧ p = nI (b + 5))) (hex : k = 0 → a = n ∨ ¬ dgt (f a)) : (v ≤ mo → NUX f n mo b k p a (nI v)) ∧ (¬ v ≤ mo → ∀ (k' : Nat) (p' : Int32), (k = 0 → k' = 2 ∧ p' = nI b) → (¬ k = 0 → k' = k ∧ p' = p) → NUX f n mo b k' p' a (nI v)) := by
  have kd : kdF f n b = 2 := kdF_2 hs (dgt_nl hd) hd
  have te1 : k = 0 → teF f n b = a := fun q => by rw [teF_2 kd]; exact isRn.eq ⟨by omega, han, hdg, hex q⟩
  have te2 : a ≤ teF f n b := by
    rw [teF_2 kd]
    have h := rnE_is (P := dgt) (f := f) (n := n) (a := b) (by omega)
    rcases Nat.lt_or_ge (rnE dgt f n b) a with q | q
    · rcases h.2.2.2 with z | z
      · omega
      · exact absurd (hdg _ h.1 q) z
    · exact q
  rcases hkk with ⟨k0, h5⟩ | ⟨k1, h6, hp⟩
  · have te := te1 k0
    have en : teF f n b - b = nn := by omega
    refine ⟨fun hv => ⟨nxF f n b, v, Or.inr (Or.inr (Or.inr ⟨kd, by omega, by rw [en, ← hvl]; omega, k0, rfl, by rw [en]; exact hvl⟩)), fun _ => ⟨by rw [nxF, te], rfl⟩, fun q => absurd k0 q⟩, fun hv k' p' h1 _ => ⟨b, 0, Or.inr (Or.inr (Or.inl ⟨kd, by omega, by rw [en, ← hvl]; omega, (h1 k0).1, rfl⟩)), fun q => by have := (h1 k0).1; omega, fun _ => (h1 k0).2⟩⟩
  · have r1 : ∀ k' : Nat, k' = 1 → numR f n mo b k' (b + 5) 0 := fun k' q => Or.inr (Or.inl ⟨kd, by omega, q, rfl⟩)
    refine ⟨fun hv => ⟨b + 5, 0, r1 k k1, fun q => by omega, fun _ => hp⟩, fun hv k' p' _ h2 => ?_⟩
    have h3 := h2 (by omega)
    exact ⟨b + 5, 0, r1 k' (by omega), fun q => by omega, fun _ => h3.2.trans hp⟩
end NUXS
theorem n_ne1 {n : Nat} (h : n < 2 ^ 31) : ¬ (-1 : Int32) = nI n := by
  intro e
  have e2 := congrArg Int32.toInt e
  rw [nI_toInt h] at e2
  have : (-1 : Int32).toInt = -1 := by decide
  omega
theorem n_dig {d : Nat} (h : d ≤ 9) : ¬ (nI (48 + d) < 48 ∨ 57 < nI (48 + d)) := by
  rintro (q | q)
  · have := n_lt (a := 48 + d) (b := 48) (by omega) (by omega) q; omega
  · have := n_lt (a := 57) (b := 48 + d) (by omega) (by omega) q; omega
set_option maxHeartbeats 4000000 in
set_option maxRecDepth 100000 in
theorem m_number (l : Launch) (D : va_G) (h0 : Nat) (ad : Nat → Nat) (cs : Nat → ClassId) (iv : Nat → Int32) (fv : Nat → Nat → Int32) (gv : Nat → Int64) (n21 n25 n26 : Nat) (mo : Nat) (sz : Nat) (h21 : iv 21 = nI n21) (h25 : iv 25 = nI n25) (h26 : iv 26 = nI n26) (z21 : n21 = 0) (b25 : n25 ≤ n26) (b26 : n26 ≤ 400) (hmo : mo ≤ 30000) : Met l yX9_number wsX9_number ({ frames := 1, cells := 0, slots := 0, locals := 22 }) (va_Pc [.ref h0, .int (nI mo)] (fun U => U.heap.size = sz ∧ va_P D vwCl (mw h0 ad cs iv fv gv) U.heap ∧ va_K D vwCl (mT cs) U ∧ va_D (fun _ => True) (mw h0 ad cs iv fv gv))) (va_Qi (fun (r u : Int32) => r = u) (fun (r : Int32) (t : State) => ∃ (k21 : Nat) (p22 : Int32) (k25 : Nat), (n25 ≤ k25) ∧ (k25 ≤ n26) ∧ (k21 ≤ 3) ∧ (1 ≤ k21 ∨ (k21 = 0 ∧ n25 + 1 ≤ k25)) ∧ (NUX (fv 0) n26 mo (skB (fv 0) n26 n25) k21 p22 k25 r) ∧ (k21 = 0 → p22 = iv 22) ∧ va_P D vwCl (mw h0 ad cs (upd (upd (upd iv 21 (nI k21)) 22 p22) 25 (nI k25)) fv gv) t.heap ∧ va_K D vwCl (mT cs) t ∧ va_D (va_A (mw h0 ad cs iv fv gv) sz) (mw h0 ad cs (upd (upd (upd iv 21 (nI k21)) 22 p22) 25 (nI k25)) fv gv)) (va_A (mw h0 ad cs iv fv gv) sz)) 0 0 (va_A (mw h0 ad cs iv fv gv) sz) := by
  refine Met.ofW (cc := cX9_number) (maxL := 5) (ret := (some .int)) (by decide) rfl ?_
  intro p e s m args below meth c s₁ B hml hv
  obtain ⟨rfl, hsz, hP, hK, hD0⟩ := hv
  have hx := B.exec
  have hb := B.bytes
  have hr := B.returns
  have hts := atoms_spec (ws := wsX9_number) B.pre
  have hown : s.vm.findClass RX9 = some m.cls := findClass_of_methodNamed B.named
  have hlocks := B.notSynchronized
  subst hsz
  have hD := hD0.self (sz := s.heap.size)
  generalize hAe : va_A (mw h0 ad cs iv fv gv) s.heap.size = A at hD ⊢
  have hA : ∀ q : Nat, s.heap.size ≤ q → A q := fun q h => by rw [← hAe]; exact Or.inr h
  have hS : va_S A s.heap s.heap [] := va_S.rf
  have hin9 : ∀ w ∈ u_ws RX9 TX9 44, w ∈ wsX9_number := (fun _ h9 => List.mem_cons_of_mem _ ((List.mem_append_right _ h9)))
  have hl := lv_entry ([.ref h0, .int (nI mo)]) (n := 5) (Nat.le_of_ble_eq_true rfl)
  rw [lg_entry_eq]
  generalize (lg_sl ([.ref h0, .int (nI mo)]) ++ List.replicate (5 - (lg_sl ([.ref h0, .int (nI mo)])).length) Slot.unset).toArray = ls at hl ⊢
  have hl : lv_has ls 5 [(0, .ref h0), (1, .int (nI mo))] := hl
  refine lv_aload_n hx hb dX9_number_0 rfl (lv_at hl 0 rfl) ?_
  have hFc := free_all hD hS hA
  refine va_calli (va_runV (As := []) (rest := []) ⟨hx, hb, hml, hown, hts⟩ (m_here l D h0 ad cs iv fv gv n25 n26  s.heap.size h25 h26 (by omega) (by omega)) (cwV 0 hts gX9_number_X9_here rfl rfl rfl (by decide +kernel) ⟨Nat.le_of_ble_eq_true rfl, Nat.le_of_ble_eq_true rfl⟩) ⟨fun a U g mk q => by obtain ⟨q0, q1, qP, qK, qD⟩ := q; exact ⟨q0, q1, qP, va_K.moved (u := U) (U := U.calling g mk a) (Vm.Alike.refl U.vm) qK, qD⟩, va_recv hK hP (ci := 9) (q0 := 0) rfl rfl, fun U hU hW => ⟨rfl, by rw [hU], by rw [hU]; exact hP, va_K.moved hW.alike hK, hD.weaken (fun _ _ _ _ => trivial)⟩⟩ rfl rfl hl.1 rfl (lv_room (Nat.le_of_ble_eq_true rfl)) dX9_number_1 ⟨Nat.le_of_ble_eq_true rfl, Nat.le_of_ble_eq_true rfl⟩) hS (fun q _ h => hFc q h) hFc (fun r_1 u t H1 locs ht hvm w_2 hB hz1 hk1 hS => ?_)
  subst w_2
  obtain ⟨k25_3, q_4, q_5, q_6, q_7, q_8, q_9, hP1, hK1, hD1⟩ := hB
  rw [ht] at hP1
  have hK := va_K.moved hvm.symm hK1
  generalize H1 = H at hP1 hS ⊢
  have hP : va_P D vwCl (mw h0 ad cs (upd iv 25 (nI k25_3)) fv gv) H := hP1
  have hD : va_D A (mw h0 ad cs (upd iv 25 (nI k25_3)) fv gv) := hD1.weaken (fun _ _ _ h => hFc _ h)
  refine vp_callSi (W.runS (As := [.int r_1]) (rest := []) ⟨hx, hb, hml, hown, hts⟩ (s_X9_isDigit l r_1) (va_cwS 1 hts gX9_number_X9_isDigit rfl rfl rfl (by decide +kernel) ⟨Nat.le_of_ble_eq_true rfl, Nat.le_of_ble_eq_true rfl⟩) ⟨fun a U g mk q => q, fun U hU hW => ⟨rfl, trivial⟩⟩ rfl rfl hl.1 rfl (lv_room (Nat.le_of_ble_eq_true rfl)) dX9_number_4 ⟨Nat.le_of_ble_eq_true rfl, Nat.le_of_ble_eq_true rfl⟩) (fun r_10 k_11 => ?_)
  rcases k_11 with ⟨rfl, nd_12⟩ | ⟨rfl, d_13, hd_14, e_15⟩
  · refine lv_if_ne (tgt := 21) hx hb dX9_number_7 (by decide) (fun c_16 => absurd (by decide) c_16) (fun c_16 => ?_)
    refine lv_aload_n hx hb dX9_number_10 rfl (lv_at hl 0 rfl) ?_
    refine lv_iconst (v := 1) hx hb dX9_number_11 (by decide) ?_
    refine lv_aload_n hx hb dX9_number_12 rfl (lv_at hl 0 rfl) ?_
    refine va_get (D := D) (ci := 9) (v := .int (nI k25_3)) (C := RX9) (T := TX9) (N := 44) hx hb hts hin9 hown hK hP 0 rfl rfl 25 (by decide) (hts (.fieldLink RX9 87 "HoneyHouseModel" "at" "I") (List.mem_of_getElem? (i := 1) rfl)) (fun _ h9 => h9) rfl dX9_number_13 ?_
    have hFc := free_all hD hS hA
    refine va_callv (va_runV (As := [.int 1, .int (nI k25_3)]) (rest := []) ⟨hx, hb, hml, hown, hts⟩ (m_blame l D h0 ad cs (upd iv 25 (nI k25_3)) fv gv n21 1 (nI k25_3) H.size h21 (by omega) (by omega)) (cwV 2 hts gX9_number_X9_blame rfl rfl rfl (by decide +kernel) ⟨Nat.le_of_ble_eq_true rfl, Nat.le_of_ble_eq_true rfl⟩) ⟨fun a U g mk q => by obtain ⟨q0, q1, qP, qK, qD⟩ := q; exact ⟨q0, q1, qP, va_K.moved (u := U) (U := U.calling g mk a) (Vm.Alike.refl U.vm) qK, qD⟩, va_recv hK hP (ci := 9) (q0 := 0) rfl rfl, fun U hU hW => ⟨rfl, by rw [hU], by rw [hU]; exact hP, va_K.moved hW.alike hK, hD.weaken (fun _ _ _ _ => trivial)⟩⟩ rfl rfl hl.1 rfl (lv_room (Nat.le_of_ble_eq_true rfl)) dX9_number_16 ⟨Nat.le_of_ble_eq_true rfl, Nat.le_of_ble_eq_true rfl⟩) hS (fun q _ h => hFc q h) hFc (fun u t H1 locs ht hvm w_18 hB hz1 hk1 hS => ?_)
    obtain ⟨k21_19, p22_20, q_21, q_22, q_23, hP1, hK1, hD1⟩ := hB
    replace q_23 : (n21 = 0 → k21_19 = 1 ∧ p22_20 = (nI k25_3)) ∧ (¬ n21 = 0 → k21_19 = n21 ∧ p22_20 = (iv 22)) := q_23
    rw [ht] at hP1
    have hK := va_K.moved hvm.symm hK1
    generalize H1 = H at hP1 hS ⊢
    have hP : va_P D vwCl (mw h0 ad cs (upd (upd (upd iv 21 (nI k21_19)) 22 p22_20) 25 (nI k25_3)) fv gv) H := hP1
    have hD : va_D A (mw h0 ad cs (upd (upd (upd iv 21 (nI k21_19)) 22 p22_20) 25 (nI k25_3)) fv gv) := hD1.weaken (fun _ _ _ h => hFc _ h)
    refine lv_iconst (v := 0) hx hb dX9_number_19 (by decide) ?_
    have hP : va_P D vwCl (mw h0 ad cs (upd (upd (upd iv 21 (nI k21_19)) 22 p22_20) 25 (nI k25_3)) fv gv) H := hP
    have hD : va_D A (mw h0 ad cs (upd (upd (upd iv 21 (nI k21_19)) 22 p22_20) 25 (nI k25_3)) fv gv) := hD
    exact W.iret (v := 0) hx hb hr (fun t ht hW => ⟨⟨0, 0, rfl, rfl, k21_19, p22_20, k25_3, by omega, by omega, by omega, Or.inl (by omega), (by rw [show skB (fv 0) n26 n25 = k25_3 from q_9.eq]; exact nu_0 q_8 nd_12 (q_23.1 (by omega))), fun h9 => absurd h9 (by omega), by rw [ht]; exact hP, va_K.moved hW.alike hK, hD⟩, hS.F ht⟩) hS.2.2 dX9_number_20
  refine lv_if_ne (tgt := 21) hx hb dX9_number_7 (by decide) (fun c_24 => ?_) (fun c_24 => absurd c_24 (by decide))
  obtain ⟨hs0, hs1⟩ : k25_3 < n26 ∧ fv 0 k25_3 = nI (48 + d_13) := q_8.elim (fun h9 => absurd (h9.1.symm.trans e_15) (n_ne1 (by omega))) (fun h9 => ⟨h9.1, h9.2.symm.trans e_15⟩)
  refine lv_aload_n hx hb dX9_number_21 rfl (lv_at hl 0 rfl) ?_
  refine va_get (D := D) (ci := 9) (v := .int (nI k25_3)) (C := RX9) (T := TX9) (N := 44) hx hb hts hin9 hown hK hP 0 rfl rfl 25 (by decide) (hts (.fieldLink RX9 87 "HoneyHouseModel" "at" "I") (List.mem_of_getElem? (i := 1) rfl)) (fun _ h9 => h9) rfl dX9_number_22 ?_
  refine lv_istore_n (lv' := [(2, .int (nI k25_3)), (0, .ref h0), (1, .int (nI mo))]) hx hb dX9_number_25 rfl hl (by decide) rfl (fun ls hl => ?_)
  refine lv_iconst (v := 0) hx hb dX9_number_26 (by decide) ?_
  refine lv_istore_n (lv' := [(3, .int 0), (2, .int (nI k25_3)), (0, .ref h0), (1, .int (nI mo))]) hx hb dX9_number_27 rfl hl (by decide) rfl (fun ls hl => ?_)
  refine lv_iconst (v := 0) hx hb dX9_number_28 (by decide) ?_
  refine lv_istore (lv' := [(4, .int 0), (3, .int 0), (2, .int (nI k25_3)), (0, .ref h0), (1, .int (nI mo))]) hx hb dX9_number_29 hl (by decide) rfl (fun ls hl => ?_)
  have hP : va_P D vwCl (mw h0 ad cs (upd (upd iv 21 (iv 21)) 25 (nI k25_3)) fv gv) H := hP
  have hD : va_D A (mw h0 ad cs (upd (upd iv 21 (iv 21)) 25 (nI k25_3)) fv gv) := hD
  rw [h21] at hP hD
  refine lp_V (nL := 5) (σ := Nat × Nat × Int32 × Nat × Nat) (lv := fun x9 => [(4, .int (nI x9.2.2.2.2)), (3, .int (nI x9.2.2.2.1)), (2, .int (nI k25_3)), (1, .int (nI mo)), (0, .ref h0)]) (μ := fun x9 => n26 - x9.1) (J := fun x9 ws9 => ws9 = (mw h0 ad cs (upd (upd (upd iv 21 (nI x9.2.1)) 22 x9.2.2.1) 25 (nI x9.1)) fv gv) ∧ (x9.1 = k25_3 + x9.2.2.2.2) ∧ (x9.1 ≤ n26) ∧ (x9.2.1 ≤ 3) ∧ (x9.2.2.2.2 ≤ 5 ∨ 1 ≤ x9.2.1) ∧ ((x9.2.2.2.2 = 0 ∧ x9.2.2.2.1 = 0) ∨ (x9.2.2.2.2 = 1 ∧ x9.2.2.2.1 ≤ 9) ∨ (x9.2.2.2.2 = 2 ∧ x9.2.2.2.1 ≤ 99) ∨ (x9.2.2.2.2 = 3 ∧ x9.2.2.2.1 ≤ 999) ∨ (x9.2.2.2.2 = 4 ∧ x9.2.2.2.1 ≤ 9999) ∨ (x9.2.2.2.2 = 5 ∧ x9.2.2.2.1 ≤ 99999) ∨ (x9.2.2.2.2 = 6 ∧ x9.2.2.2.1 ≤ 999999)) ∧ (∀ i : Nat, k25_3 ≤ i → i < x9.1 → dgt (fv 0 i)) ∧ (x9.2.2.2.1 = vlN (fv 0) k25_3 x9.2.2.2.2) ∧ ((x9.2.1 = 0 ∧ x9.2.2.2.2 ≤ 5) ∨ (x9.2.1 = 1 ∧ x9.2.2.2.2 = 6 ∧ x9.2.2.1 = nI (k25_3 + 5))) ∧ (x9.2.1 = 0 → x9.2.2.1 = iv 22)) (fun x9 ws9 H locs ls hj hP hD hS hl ih_25 => ?_) (k25_3, n21, iv 22, 0, 0) (mw h0 ad cs (upd (upd iv 21 (nI n21)) 25 (nI k25_3)) fv gv) _ _ ls ⟨rfl, (show k25_3 = k25_3 + 0 from by omega), (show k25_3 ≤ n26 from by omega), (show n21 ≤ 3 from by omega), (show 0 ≤ 5 ∨ 1 ≤ n21 from by omega), (show (0 = 0 ∧ 0 = 0) ∨ (0 = 1 ∧ 0 ≤ 9) ∨ (0 = 2 ∧ 0 ≤ 99) ∨ (0 = 3 ∧ 0 ≤ 999) ∨ (0 = 4 ∧ 0 ≤ 9999) ∨ (0 = 5 ∧ 0 ≤ 99999) ∨ (0 = 6 ∧ 0 ≤ 999999) from by omega), (show ∀ i : Nat, k25_3 ≤ i → i < k25_3 → dgt (fv 0 i) from fun i h1 h2 => absurd h2 (by omega)), (show 0 = vlN (fv 0) k25_3 0 from rfl), (show (n21 = 0 ∧ 0 ≤ 5) ∨ (n21 = 1 ∧ 0 = 6 ∧ (iv 22) = nI (k25_3 + 5)) from Or.inl ⟨by omega, by omega⟩), (show n21 = 0 → (iv 22) = iv 22 from fun _ => rfl)⟩ hP hD hS (lv_sub hl [0, 1, 2, 4, 3] rfl)
  obtain ⟨a_26, k_27, p22_28, v_29, n_30⟩ := x9
  replace hj : ws9 = (mw h0 ad cs (upd (upd (upd iv 21 (nI k_27)) 22 p22_28) 25 (nI a_26)) fv gv) ∧ (a_26 = k25_3 + n_30) ∧ (a_26 ≤ n26) ∧ (k_27 ≤ 3) ∧ (n_30 ≤ 5 ∨ 1 ≤ k_27) ∧ ((n_30 = 0 ∧ v_29 = 0) ∨ (n_30 = 1 ∧ v_29 ≤ 9) ∨ (n_30 = 2 ∧ v_29 ≤ 99) ∨ (n_30 = 3 ∧ v_29 ≤ 999) ∨ (n_30 = 4 ∧ v_29 ≤ 9999) ∨ (n_30 = 5 ∧ v_29 ≤ 99999) ∨ (n_30 = 6 ∧ v_29 ≤ 999999)) ∧ (∀ i : Nat, k25_3 ≤ i → i < a_26 → dgt (fv 0 i)) ∧ (v_29 = vlN (fv 0) k25_3 n_30) ∧ ((k_27 = 0 ∧ n_30 ≤ 5) ∨ (k_27 = 1 ∧ n_30 = 6 ∧ p22_28 = nI (k25_3 + 5))) ∧ (k_27 = 0 → p22_28 = iv 22) := hj
  obtain ⟨rfl, ha_31, hb_32, hk_33, hn_34, hv_35, hdg_36, hvl_37, hkk_38, hp0_39⟩ := hj
  have hl : lv_has ls 5 [(4, .int (nI n_30)), (3, .int (nI v_29)), (2, .int (nI k25_3)), (1, .int (nI mo)), (0, .ref h0)] := hl
  refine lv_aload_n hx hb dX9_number_31 rfl (lv_at hl 4 rfl) ?_
  refine va_get (D := D) (ci := 9) (v := .int (nI a_26)) (C := RX9) (T := TX9) (N := 44) hx hb hts hin9 hown hK hP 0 rfl rfl 25 (by decide) (hts (.fieldLink RX9 87 "HoneyHouseModel" "at" "I") (List.mem_of_getElem? (i := 1) rfl)) (fun _ h9 => h9) rfl dX9_number_32 ?_
  refine lv_aload_n hx hb dX9_number_35 rfl (lv_at hl 4 rfl) ?_
  refine va_get (D := D) (ci := 9) (v := .int (iv 26)) (C := RX9) (T := TX9) (N := 44) hx hb hts hin9 hown hK hP 0 rfl rfl 26 (by decide) (hts (.fieldLink RX9 90 "HoneyHouseModel" "size" "I") (List.mem_of_getElem? (i := 2) rfl)) (fun _ h9 => h9) rfl dX9_number_36 ?_
  refine tp_i (y := nI n26) (h26) ?_
  refine lv_icmp_ge (tgt := 113) hx hb dX9_number_39 (by decide) (fun c_40 => ?_) (fun c_40 => ?_)
  · have d_41 := n_le (a := n26) (b := a_26) (by omega) (by omega) c_40
    refine lv_iload_n hx hb dX9_number_113 rfl (lv_at hl 1 rfl) ?_
    refine lv_iload_n hx hb dX9_number_114 rfl (lv_at hl 3 rfl) ?_
    refine lv_icmp_le (tgt := 124) hx hb dX9_number_115 (by decide) (fun c_42 => ?_) (fun c_42 => ?_)
    · have d_43 := n_le (a := v_29) (b := mo) (by omega) (by omega) c_42
      refine lv_iload_n hx hb dX9_number_124 rfl (lv_at hl 1 rfl) ?_
      have hP : va_P D vwCl (mw h0 ad cs (upd (upd (upd iv 21 (nI k_27)) 22 p22_28) 25 (nI a_26)) fv gv) H := hP
      have hD : va_D A (mw h0 ad cs (upd (upd (upd iv 21 (nI k_27)) 22 p22_28) 25 (nI a_26)) fv gv) := hD
      exact W.iret (v := nI v_29) hx hb hr (fun t ht hW => ⟨⟨nI v_29, nI v_29, rfl, rfl, k_27, p22_28, a_26, by omega, by omega, by omega, (Or.elim (Nat.eq_zero_or_pos k_27) (fun h9 => Or.inr ⟨h9, by omega⟩) (fun h9 => Or.inl h9)), (by rw [show skB (fv 0) n26 n25 = k25_3 from q_9.eq]; exact (nu_fin (mo := mo) hs0 (by rw [hs1]; exact dg_n hd_14) ha_31 hb_32 hdg_36 hvl_37 hkk_38 (fun _ => Or.inl (by omega))).1 (by omega)), hp0_39, by rw [ht]; exact hP, va_K.moved hW.alike hK, hD⟩, hS.F ht⟩) hS.2.2 dX9_number_125
    have d_44 := n_nle (a := v_29) (b := mo) (by omega) (by omega) c_42
    refine lv_aload_n hx hb dX9_number_118 rfl (lv_at hl 4 rfl) ?_
    refine lv_iconst (v := 2) hx hb dX9_number_119 (by decide) ?_
    refine lv_iload_n hx hb dX9_number_120 rfl (lv_at hl 2 rfl) ?_
    have hFc := free_all hD hS hA
    refine va_callv (va_runV (As := [.int 2, .int (nI k25_3)]) (rest := []) ⟨hx, hb, hml, hown, hts⟩ (m_blame l D h0 ad cs (upd (upd (upd iv 21 (nI k_27)) 22 p22_28) 25 (nI a_26)) fv gv k_27 2 (nI k25_3) H.size rfl (by omega) (by omega)) (cwV 2 hts gX9_number_X9_blame rfl rfl rfl (by decide +kernel) ⟨Nat.le_of_ble_eq_true rfl, Nat.le_of_ble_eq_true rfl⟩) ⟨fun a U g mk q => by obtain ⟨q0, q1, qP, qK, qD⟩ := q; exact ⟨q0, q1, qP, va_K.moved (u := U) (U := U.calling g mk a) (Vm.Alike.refl U.vm) qK, qD⟩, va_recv hK hP (ci := 9) (q0 := 0) rfl rfl, fun U hU hW => ⟨rfl, by rw [hU], by rw [hU]; exact hP, va_K.moved hW.alike hK, hD.weaken (fun _ _ _ _ => trivial)⟩⟩ rfl rfl hl.1 rfl (lv_room (Nat.le_of_ble_eq_true rfl)) dX9_number_121 ⟨Nat.le_of_ble_eq_true rfl, Nat.le_of_ble_eq_true rfl⟩) hS (fun q _ h => hFc q h) hFc (fun u t H1 locs ht hvm w_46 hB hz1 hk1 hS => ?_)
    obtain ⟨k21_47, p22_48, q_49, q_50, q_51, hP1, hK1, hD1⟩ := hB
    replace q_51 : (k_27 = 0 → k21_47 = 2 ∧ p22_48 = (nI k25_3)) ∧ (¬ k_27 = 0 → k21_47 = k_27 ∧ p22_48 = (p22_28)) := q_51
    rw [ht] at hP1
    have hK := va_K.moved hvm.symm hK1
    generalize H1 = H at hP1 hS ⊢
    have hP : va_P D vwCl (mw h0 ad cs (upd (upd (upd iv 21 (nI k21_47)) 22 p22_48) 25 (nI a_26)) fv gv) H := hP1
    have hD : va_D A (mw h0 ad cs (upd (upd (upd iv 21 (nI k21_47)) 22 p22_48) 25 (nI a_26)) fv gv) := hD1.weaken (fun _ _ _ h => hFc _ h)
    refine lv_iload_n hx hb dX9_number_124 rfl (lv_at hl 1 rfl) ?_
    have hP : va_P D vwCl (mw h0 ad cs (upd (upd (upd iv 21 (nI k21_47)) 22 p22_48) 25 (nI a_26)) fv gv) H := hP
    have hD : va_D A (mw h0 ad cs (upd (upd (upd iv 21 (nI k21_47)) 22 p22_48) 25 (nI a_26)) fv gv) := hD
    exact W.iret (v := nI v_29) hx hb hr (fun t ht hW => ⟨⟨nI v_29, nI v_29, rfl, rfl, k21_47, p22_48, a_26, by omega, by omega, by omega, Or.inl (by omega), (by rw [show skB (fv 0) n26 n25 = k25_3 from q_9.eq]; exact (nu_fin (mo := mo) hs0 (by rw [hs1]; exact dg_n hd_14) ha_31 hb_32 hdg_36 hvl_37 hkk_38 (fun _ => Or.inl (by omega))).2 (by omega) _ _ q_51.1 q_51.2), fun h9 => absurd h9 (by omega), by rw [ht]; exact hP, va_K.moved hW.alike hK, hD⟩, hS.F ht⟩) hS.2.2 dX9_number_125
  have d_52 := n_nle (a := n26) (b := a_26) (by omega) (by omega) c_40
  refine lv_aload_n hx hb dX9_number_42 rfl (lv_at hl 4 rfl) ?_
  refine va_get (D := D) (ci := 9) (v := .ref (ad 0)) (C := RX9) (T := TX9) (N := 44) hx hb hts hin9 hown hK hP 0 rfl rfl 0 (by decide) (hts (.fieldLink RX9 7 "HoneyHouseModel" "tape" "[I") (List.mem_of_getElem? (i := 3) rfl)) (fun _ h9 => h9) rfl dX9_number_43 ?_
  refine lv_aload_n hx hb dX9_number_46 rfl (lv_at hl 4 rfl) ?_
  refine va_get (D := D) (ci := 9) (v := .int (nI a_26)) (C := RX9) (T := TX9) (N := 44) hx hb hts hin9 hown hK hP 0 rfl rfl 25 (by decide) (hts (.fieldLink RX9 87 "HoneyHouseModel" "at" "I") (List.mem_of_getElem? (i := 1) rfl)) (fun _ h9 => h9) rfl dX9_number_47 ?_
  refine va_iald (f := fv 0) (n := 400) hx hb hK hP 1 0 rfl rfl (vp_in_nI (n := a_26) (by omega) (by omega)) dX9_number_50 ?_
  refine lv_topi (fun z_53 hz_54 => ?_)
  rw [nI_clamp (n := a_26) (by omega)] at hz_54
  refine vp_callSi (W.runS (As := [.int z_53]) (rest := []) ⟨hx, hb, hml, hown, hts⟩ (s_X9_isDigit l z_53) (va_cwS 1 hts gX9_number_X9_isDigit rfl rfl rfl (by decide +kernel) ⟨Nat.le_of_ble_eq_true rfl, Nat.le_of_ble_eq_true rfl⟩) ⟨fun a U g mk q => q, fun U hU hW => ⟨rfl, trivial⟩⟩ rfl rfl hl.1 rfl (lv_room (Nat.le_of_ble_eq_true rfl)) dX9_number_51 ⟨Nat.le_of_ble_eq_true rfl, Nat.le_of_ble_eq_true rfl⟩) (fun r_55 k_56 => ?_)
  rcases k_56 with ⟨rfl, nd_57⟩ | ⟨rfl, d_58, hd_59, e_60⟩
  · refine lv_if_eq (tgt := 113) hx hb dX9_number_54 (by decide) (fun c_61 => ?_) (fun c_61 => absurd (by decide) c_61)
    have hn1 : ¬ n_30 = 0 := fun h9 => absurd nd_57 (by rw [hz_54, show a_26 = k25_3 by omega, hs1]; exact n_dig (by omega))
    refine lv_iload_n hx hb dX9_number_113 rfl (lv_at hl 1 rfl) ?_
    refine lv_iload_n hx hb dX9_number_114 rfl (lv_at hl 3 rfl) ?_
    refine lv_icmp_le (tgt := 124) hx hb dX9_number_115 (by decide) (fun c_62 => ?_) (fun c_62 => ?_)
    · have d_63 := n_le (a := v_29) (b := mo) (by omega) (by omega) c_62
      refine lv_iload_n hx hb dX9_number_124 rfl (lv_at hl 1 rfl) ?_
      have hP : va_P D vwCl (mw h0 ad cs (upd (upd (upd iv 21 (nI k_27)) 22 p22_28) 25 (nI a_26)) fv gv) H := hP
      have hD : va_D A (mw h0 ad cs (upd (upd (upd iv 21 (nI k_27)) 22 p22_28) 25 (nI a_26)) fv gv) := hD
      exact W.iret (v := nI v_29) hx hb hr (fun t ht hW => ⟨⟨nI v_29, nI v_29, rfl, rfl, k_27, p22_28, a_26, by omega, by omega, by omega, (Or.elim (Nat.eq_zero_or_pos k_27) (fun h9 => Or.inr ⟨h9, by omega⟩) (fun h9 => Or.inl h9)), (by rw [show skB (fv 0) n26 n25 = k25_3 from q_9.eq]; exact (nu_fin (mo := mo) hs0 (by rw [hs1]; exact dg_n hd_14) ha_31 hb_32 hdg_36 hvl_37 hkk_38 (fun _ => Or.inr (fun h9 => nd_57.elim (fun q9 => h9.1 (by rw [← hz_54]; exact q9)) (fun q9 => h9.2 (by rw [← hz_54]; exact q9))))).1 (by omega)), hp0_39, by rw [ht]; exact hP, va_K.moved hW.alike hK, hD⟩, hS.F ht⟩) hS.2.2 dX9_number_125
    have d_64 := n_nle (a := v_29) (b := mo) (by omega) (by omega) c_62
    refine lv_aload_n hx hb dX9_number_118 rfl (lv_at hl 4 rfl) ?_
    refine lv_iconst (v := 2) hx hb dX9_number_119 (by decide) ?_
    refine lv_iload_n hx hb dX9_number_120 rfl (lv_at hl 2 rfl) ?_
    have hFc := free_all hD hS hA
    refine va_callv (va_runV (As := [.int 2, .int (nI k25_3)]) (rest := []) ⟨hx, hb, hml, hown, hts⟩ (m_blame l D h0 ad cs (upd (upd (upd iv 21 (nI k_27)) 22 p22_28) 25 (nI a_26)) fv gv k_27 2 (nI k25_3) H.size rfl (by omega) (by omega)) (cwV 2 hts gX9_number_X9_blame rfl rfl rfl (by decide +kernel) ⟨Nat.le_of_ble_eq_true rfl, Nat.le_of_ble_eq_true rfl⟩) ⟨fun a U g mk q => by obtain ⟨q0, q1, qP, qK, qD⟩ := q; exact ⟨q0, q1, qP, va_K.moved (u := U) (U := U.calling g mk a) (Vm.Alike.refl U.vm) qK, qD⟩, va_recv hK hP (ci := 9) (q0 := 0) rfl rfl, fun U hU hW => ⟨rfl, by rw [hU], by rw [hU]; exact hP, va_K.moved hW.alike hK, hD.weaken (fun _ _ _ _ => trivial)⟩⟩ rfl rfl hl.1 rfl (lv_room (Nat.le_of_ble_eq_true rfl)) dX9_number_121 ⟨Nat.le_of_ble_eq_true rfl, Nat.le_of_ble_eq_true rfl⟩) hS (fun q _ h => hFc q h) hFc (fun u t H1 locs ht hvm w_66 hB hz1 hk1 hS => ?_)
    obtain ⟨k21_67, p22_68, q_69, q_70, q_71, hP1, hK1, hD1⟩ := hB
    replace q_71 : (k_27 = 0 → k21_67 = 2 ∧ p22_68 = (nI k25_3)) ∧ (¬ k_27 = 0 → k21_67 = k_27 ∧ p22_68 = (p22_28)) := q_71
    rw [ht] at hP1
    have hK := va_K.moved hvm.symm hK1
    generalize H1 = H at hP1 hS ⊢
    have hP : va_P D vwCl (mw h0 ad cs (upd (upd (upd iv 21 (nI k21_67)) 22 p22_68) 25 (nI a_26)) fv gv) H := hP1
    have hD : va_D A (mw h0 ad cs (upd (upd (upd iv 21 (nI k21_67)) 22 p22_68) 25 (nI a_26)) fv gv) := hD1.weaken (fun _ _ _ h => hFc _ h)
    refine lv_iload_n hx hb dX9_number_124 rfl (lv_at hl 1 rfl) ?_
    have hP : va_P D vwCl (mw h0 ad cs (upd (upd (upd iv 21 (nI k21_67)) 22 p22_68) 25 (nI a_26)) fv gv) H := hP
    have hD : va_D A (mw h0 ad cs (upd (upd (upd iv 21 (nI k21_67)) 22 p22_68) 25 (nI a_26)) fv gv) := hD
    exact W.iret (v := nI v_29) hx hb hr (fun t ht hW => ⟨⟨nI v_29, nI v_29, rfl, rfl, k21_67, p22_68, a_26, by omega, by omega, by omega, Or.inl (by omega), (by rw [show skB (fv 0) n26 n25 = k25_3 from q_9.eq]; exact (nu_fin (mo := mo) hs0 (by rw [hs1]; exact dg_n hd_14) ha_31 hb_32 hdg_36 hvl_37 hkk_38 (fun _ => Or.inr (fun h9 => nd_57.elim (fun q9 => h9.1 (by rw [← hz_54]; exact q9)) (fun q9 => h9.2 (by rw [← hz_54]; exact q9))))).2 (by omega) _ _ q_71.1 q_71.2), fun h9 => absurd h9 (by omega), by rw [ht]; exact hP, va_K.moved hW.alike hK, hD⟩, hS.F ht⟩) hS.2.2 dX9_number_125
  refine lv_if_eq (tgt := 113) hx hb dX9_number_54 (by decide) (fun c_72 => absurd c_72 (by decide)) (fun c_72 => ?_)
  refine lv_aload_n hx hb dX9_number_57 rfl (lv_at hl 4 rfl) ?_
  refine va_get (D := D) (ci := 9) (v := .int (nI k_27)) (C := RX9) (T := TX9) (N := 44) hx hb hts hin9 hown hK hP 0 rfl rfl 21 (by decide) (hts (.fieldLink RX9 74 "HoneyHouseModel" "faultKind" "I") (List.mem_of_getElem? (i := 4) rfl)) (fun _ h9 => h9) rfl dX9_number_58 ?_
  refine lv_if_ne (tgt := 113) hx hb dX9_number_61 (by decide) (fun c_73 => ?_) (fun c_73 => ?_)
  · have d_74 := n_ne (a := k_27) (b := 0) (by omega) (by omega) c_73
    refine lv_iload_n hx hb dX9_number_113 rfl (lv_at hl 1 rfl) ?_
    refine lv_iload_n hx hb dX9_number_114 rfl (lv_at hl 3 rfl) ?_
    refine lv_icmp_le (tgt := 124) hx hb dX9_number_115 (by decide) (fun c_75 => ?_) (fun c_75 => ?_)
    · have d_76 := n_le (a := v_29) (b := mo) (by omega) (by omega) c_75
      refine lv_iload_n hx hb dX9_number_124 rfl (lv_at hl 1 rfl) ?_
      have hP : va_P D vwCl (mw h0 ad cs (upd (upd (upd iv 21 (nI k_27)) 22 p22_28) 25 (nI a_26)) fv gv) H := hP
      have hD : va_D A (mw h0 ad cs (upd (upd (upd iv 21 (nI k_27)) 22 p22_28) 25 (nI a_26)) fv gv) := hD
      exact W.iret (v := nI v_29) hx hb hr (fun t ht hW => ⟨⟨nI v_29, nI v_29, rfl, rfl, k_27, p22_28, a_26, by omega, by omega, by omega, (Or.elim (Nat.eq_zero_or_pos k_27) (fun h9 => Or.inr ⟨h9, by omega⟩) (fun h9 => Or.inl h9)), (by rw [show skB (fv 0) n26 n25 = k25_3 from q_9.eq]; exact (nu_fin (mo := mo) hs0 (by rw [hs1]; exact dg_n hd_14) ha_31 hb_32 hdg_36 hvl_37 hkk_38 (fun h9 => absurd h9 d_74)).1 (by omega)), hp0_39, by rw [ht]; exact hP, va_K.moved hW.alike hK, hD⟩, hS.F ht⟩) hS.2.2 dX9_number_125
    have d_77 := n_nle (a := v_29) (b := mo) (by omega) (by omega) c_75
    refine lv_aload_n hx hb dX9_number_118 rfl (lv_at hl 4 rfl) ?_
    refine lv_iconst (v := 2) hx hb dX9_number_119 (by decide) ?_
    refine lv_iload_n hx hb dX9_number_120 rfl (lv_at hl 2 rfl) ?_
    have hFc := free_all hD hS hA
    refine va_callv (va_runV (As := [.int 2, .int (nI k25_3)]) (rest := []) ⟨hx, hb, hml, hown, hts⟩ (m_blame l D h0 ad cs (upd (upd (upd iv 21 (nI k_27)) 22 p22_28) 25 (nI a_26)) fv gv k_27 2 (nI k25_3) H.size rfl (by omega) (by omega)) (cwV 2 hts gX9_number_X9_blame rfl rfl rfl (by decide +kernel) ⟨Nat.le_of_ble_eq_true rfl, Nat.le_of_ble_eq_true rfl⟩) ⟨fun a U g mk q => by obtain ⟨q0, q1, qP, qK, qD⟩ := q; exact ⟨q0, q1, qP, va_K.moved (u := U) (U := U.calling g mk a) (Vm.Alike.refl U.vm) qK, qD⟩, va_recv hK hP (ci := 9) (q0 := 0) rfl rfl, fun U hU hW => ⟨rfl, by rw [hU], by rw [hU]; exact hP, va_K.moved hW.alike hK, hD.weaken (fun _ _ _ _ => trivial)⟩⟩ rfl rfl hl.1 rfl (lv_room (Nat.le_of_ble_eq_true rfl)) dX9_number_121 ⟨Nat.le_of_ble_eq_true rfl, Nat.le_of_ble_eq_true rfl⟩) hS (fun q _ h => hFc q h) hFc (fun u t H1 locs ht hvm w_79 hB hz1 hk1 hS => ?_)
    obtain ⟨k21_80, p22_81, q_82, q_83, q_84, hP1, hK1, hD1⟩ := hB
    replace q_84 : (k_27 = 0 → k21_80 = 2 ∧ p22_81 = (nI k25_3)) ∧ (¬ k_27 = 0 → k21_80 = k_27 ∧ p22_81 = (p22_28)) := q_84
    rw [ht] at hP1
    have hK := va_K.moved hvm.symm hK1
    generalize H1 = H at hP1 hS ⊢
    have hP : va_P D vwCl (mw h0 ad cs (upd (upd (upd iv 21 (nI k21_80)) 22 p22_81) 25 (nI a_26)) fv gv) H := hP1
    have hD : va_D A (mw h0 ad cs (upd (upd (upd iv 21 (nI k21_80)) 22 p22_81) 25 (nI a_26)) fv gv) := hD1.weaken (fun _ _ _ h => hFc _ h)
    refine lv_iload_n hx hb dX9_number_124 rfl (lv_at hl 1 rfl) ?_
    have hP : va_P D vwCl (mw h0 ad cs (upd (upd (upd iv 21 (nI k21_80)) 22 p22_81) 25 (nI a_26)) fv gv) H := hP
    have hD : va_D A (mw h0 ad cs (upd (upd (upd iv 21 (nI k21_80)) 22 p22_81) 25 (nI a_26)) fv gv) := hD
    exact W.iret (v := nI v_29) hx hb hr (fun t ht hW => ⟨⟨nI v_29, nI v_29, rfl, rfl, k21_80, p22_81, a_26, by omega, by omega, by omega, Or.inl (by omega), (by rw [show skB (fv 0) n26 n25 = k25_3 from q_9.eq]; exact (nu_fin (mo := mo) hs0 (by rw [hs1]; exact dg_n hd_14) ha_31 hb_32 hdg_36 hvl_37 hkk_38 (fun h9 => absurd h9 d_74)).2 (by omega) _ _ q_84.1 q_84.2), fun h9 => absurd h9 (by omega), by rw [ht]; exact hP, va_K.moved hW.alike hK, hD⟩, hS.F ht⟩) hS.2.2 dX9_number_125
  have d_85 := n_eq (a := k_27) (b := 0) (by omega) (by omega) c_73
  refine lv_iload hx hb dX9_number_64 (lv_at hl 0 rfl) ?_
  refine lv_iconst (v := 5) hx hb dX9_number_66 (by decide) ?_
  refine lv_icmp_ne (tgt := 79) hx hb dX9_number_67 (by decide) (fun c_86 => ?_) (fun c_86 => ?_)
  · have d_87 := n_ne (a := n_30) (b := 5) (by omega) (by omega) c_86
    refine lv_bipush (v := 10) hx hb dX9_number_79 (by decide) ?_
    refine lv_iload_n hx hb dX9_number_81 rfl (lv_at hl 1 rfl) ?_
    refine lv_imul hx hb dX9_number_82 ?_
    refine tp_i (y := nI (10 * v_29)) (pk_mul 10 v_29) ?_
    refine lv_aload_n hx hb dX9_number_83 rfl (lv_at hl 4 rfl) ?_
    refine va_get (D := D) (ci := 9) (v := .ref (ad 0)) (C := RX9) (T := TX9) (N := 44) hx hb hts hin9 hown hK hP 0 rfl rfl 0 (by decide) (hts (.fieldLink RX9 7 "HoneyHouseModel" "tape" "[I") (List.mem_of_getElem? (i := 3) rfl)) (fun _ h9 => h9) rfl dX9_number_84 ?_
    refine lv_aload_n hx hb dX9_number_87 rfl (lv_at hl 4 rfl) ?_
    refine va_get (D := D) (ci := 9) (v := .int (nI a_26)) (C := RX9) (T := TX9) (N := 44) hx hb hts hin9 hown hK hP 0 rfl rfl 25 (by decide) (hts (.fieldLink RX9 87 "HoneyHouseModel" "at" "I") (List.mem_of_getElem? (i := 1) rfl)) (fun _ h9 => h9) rfl dX9_number_88 ?_
    refine va_iald (f := fv 0) (n := 400) hx hb hK hP 1 0 rfl rfl (vp_in_nI (n := a_26) (by omega) (by omega)) dX9_number_91 ?_
    refine lv_topi (fun z_88 hz_89 => ?_)
    rw [nI_clamp (n := a_26) (by omega)] at hz_89
    have e_z_88 : z_88 = nI (48 + d_58) := hz_89.trans (hz_54.symm.trans e_60)
    rw [e_z_88]
    refine lv_iadd hx hb dX9_number_92 ?_
    refine tp_i (y := nI ((10 * v_29) + (48 + d_58))) (nI_add (10 * v_29) (48 + d_58)) ?_
    refine lv_bipush (v := 48) hx hb dX9_number_93 (by decide) ?_
    refine lv_isub hx hb dX9_number_95 ?_
    refine tp_i (y := nI (((10 * v_29) + (48 + d_58)) - 48)) (pk_sub (a := (10 * v_29) + (48 + d_58)) (b := 48) (by omega)) ?_
    refine lv_istore_n (lv' := [(3, .int (nI (((10 * v_29) + (48 + d_58)) - 48))), (4, .int (nI n_30)), (2, .int (nI k25_3)), (1, .int (nI mo)), (0, .ref h0)]) hx hb dX9_number_96 rfl hl (by decide) rfl (fun ls hl => ?_)
    refine lv_aload_n hx hb dX9_number_97 rfl (lv_at hl 4 rfl) ?_
    refine lv_dup hx hb dX9_number_98 rfl ?_
    refine va_get (D := D) (ci := 9) (v := .int (nI a_26)) (C := RX9) (T := TX9) (N := 44) hx hb hts hin9 hown hK hP 0 rfl rfl 25 (by decide) (hts (.fieldLink RX9 87 "HoneyHouseModel" "at" "I") (List.mem_of_getElem? (i := 1) rfl)) (fun _ h9 => h9) rfl dX9_number_99 ?_
    refine lv_iconst (v := 1) hx hb dX9_number_102 (by decide) ?_
    refine lv_iadd hx hb dX9_number_103 ?_
    refine tp_i (y := nI (a_26 + 1)) (nI_add a_26 1) ?_
    refine va_put (D := D) (ci := 9) (v := .int (nI (a_26 + 1))) (ty := .int) (C := RX9) (T := TX9) (N := 44) hx hb hts hin9 tyX9 tyX9_ok nmX9 hown hK hP hD hS 0 rfl rfl 25 (by decide) (hts (.fieldLink RX9 87 "HoneyHouseModel" "at" "I") (List.mem_of_getElem? (i := 1) rfl)) (fun _ h9 => h9) rfl (tyX9_ok 25 (by decide)) rfl rfl (Nat.le_of_ble_eq_true rfl) dX9_number_104 (fun H locs hP hD hS => ?_)
    have hP : va_P D vwCl (mw h0 ad cs (upd (upd (upd iv 21 (nI k_27)) 22 p22_28) 25 (nI (a_26 + 1))) fv gv) H := hP
    have hD : va_D A (mw h0 ad cs (upd (upd (upd iv 21 (nI k_27)) 22 p22_28) 25 (nI (a_26 + 1))) fv gv) := hD
    refine lv_iinc (v := nI (n_30 + 1)) (lv' := [(4, .int (nI (n_30 + 1))), (3, .int (nI (((10 * v_29) + (48 + d_58)) - 48))), (2, .int (nI k25_3)), (1, .int (nI mo)), (0, .ref h0)]) hx hb dX9_number_107 hl (k := 1) rfl (nI_add n_30 1) (by decide) rfl (fun ls hl => ?_)
    refine lv_goto (tgt := 31) hx hb dX9_number_110 (by decide) ?_
    exact ih_25 (a_26 + 1, k_27, p22_28, ((10 * v_29) + (48 + d_58)) - 48, n_30 + 1) (mw h0 ad cs (upd (upd (upd iv 21 (nI k_27)) 22 p22_28) 25 (nI (a_26 + 1))) fv gv) _ _ ls (by show n26 - (a_26 + 1) < n26 - a_26; omega) ⟨rfl, (show (a_26 + 1) = k25_3 + (n_30 + 1) from by omega), (show (a_26 + 1) ≤ n26 from by omega), (show k_27 ≤ 3 from by omega), (show (n_30 + 1) ≤ 5 ∨ 1 ≤ k_27 from by omega), (show ((n_30 + 1) = 0 ∧ (((10 * v_29) + (48 + d_58)) - 48) = 0) ∨ ((n_30 + 1) = 1 ∧ (((10 * v_29) + (48 + d_58)) - 48) ≤ 9) ∨ ((n_30 + 1) = 2 ∧ (((10 * v_29) + (48 + d_58)) - 48) ≤ 99) ∨ ((n_30 + 1) = 3 ∧ (((10 * v_29) + (48 + d_58)) - 48) ≤ 999) ∨ ((n_30 + 1) = 4 ∧ (((10 * v_29) + (48 + d_58)) - 48) ≤ 9999) ∨ ((n_30 + 1) = 5 ∧ (((10 * v_29) + (48 + d_58)) - 48) ≤ 99999) ∨ ((n_30 + 1) = 6 ∧ (((10 * v_29) + (48 + d_58)) - 48) ≤ 999999) from by omega), (show ∀ i : Nat, k25_3 ≤ i → i < (a_26 + 1) → dgt (fv 0 i) from fun i h1 h2 => (Nat.lt_or_ge i a_26).elim (fun q9 => hdg_36 i h1 q9) (fun q9 => by rw [show i = a_26 by omega, ← hz_54, e_60]; exact dg_n hd_59)), (show (((10 * v_29) + (48 + d_58)) - 48) = vlN (fv 0) k25_3 (n_30 + 1) from (by rw [vlN, ← hvl_37, show k25_3 + n_30 = a_26 by omega, ← hz_54, e_60, nI_clamp (n := 48 + d_58) (by omega)]; omega)), (show (k_27 = 0 ∧ (n_30 + 1) ≤ 5) ∨ (k_27 = 1 ∧ (n_30 + 1) = 6 ∧ p22_28 = nI (k25_3 + 5)) from Or.inl ⟨by omega, by omega⟩), (show k_27 = 0 → p22_28 = iv 22 from hp0_39)⟩ hP hD hS (lv_sub hl [0, 1, 2, 3, 4] rfl)
  have d_90 := n_eq (a := n_30) (b := 5) (by omega) (by omega) c_86
  refine lv_aload_n hx hb dX9_number_70 rfl (lv_at hl 4 rfl) ?_
  refine lv_iconst (v := 1) hx hb dX9_number_71 (by decide) ?_
  refine lv_aload_n hx hb dX9_number_72 rfl (lv_at hl 4 rfl) ?_
  refine va_get (D := D) (ci := 9) (v := .int (nI a_26)) (C := RX9) (T := TX9) (N := 44) hx hb hts hin9 hown hK hP 0 rfl rfl 25 (by decide) (hts (.fieldLink RX9 87 "HoneyHouseModel" "at" "I") (List.mem_of_getElem? (i := 1) rfl)) (fun _ h9 => h9) rfl dX9_number_73 ?_
  have hFc := free_all hD hS hA
  refine va_callv (va_runV (As := [.int 1, .int (nI a_26)]) (rest := []) ⟨hx, hb, hml, hown, hts⟩ (m_blame l D h0 ad cs (upd (upd (upd iv 21 (nI k_27)) 22 p22_28) 25 (nI a_26)) fv gv k_27 1 (nI a_26) H.size rfl (by omega) (by omega)) (cwV 2 hts gX9_number_X9_blame rfl rfl rfl (by decide +kernel) ⟨Nat.le_of_ble_eq_true rfl, Nat.le_of_ble_eq_true rfl⟩) ⟨fun a U g mk q => by obtain ⟨q0, q1, qP, qK, qD⟩ := q; exact ⟨q0, q1, qP, va_K.moved (u := U) (U := U.calling g mk a) (Vm.Alike.refl U.vm) qK, qD⟩, va_recv hK hP (ci := 9) (q0 := 0) rfl rfl, fun U hU hW => ⟨rfl, by rw [hU], by rw [hU]; exact hP, va_K.moved hW.alike hK, hD.weaken (fun _ _ _ _ => trivial)⟩⟩ rfl rfl hl.1 rfl (lv_room (Nat.le_of_ble_eq_true rfl)) dX9_number_76 ⟨Nat.le_of_ble_eq_true rfl, Nat.le_of_ble_eq_true rfl⟩) hS (fun q _ h => hFc q h) hFc (fun u t H1 locs ht hvm w_92 hB hz1 hk1 hS => ?_)
  obtain ⟨k21_93, p22_94, q_95, q_96, q_97, hP1, hK1, hD1⟩ := hB
  replace q_97 : (k_27 = 0 → k21_93 = 1 ∧ p22_94 = (nI a_26)) ∧ (¬ k_27 = 0 → k21_93 = k_27 ∧ p22_94 = (p22_28)) := q_97
  rw [ht] at hP1
  have hK := va_K.moved hvm.symm hK1
  generalize H1 = H at hP1 hS ⊢
  have hP : va_P D vwCl (mw h0 ad cs (upd (upd (upd iv 21 (nI k21_93)) 22 p22_94) 25 (nI a_26)) fv gv) H := hP1
  have hD : va_D A (mw h0 ad cs (upd (upd (upd iv 21 (nI k21_93)) 22 p22_94) 25 (nI a_26)) fv gv) := hD1.weaken (fun _ _ _ h => hFc _ h)
  refine lv_bipush (v := 10) hx hb dX9_number_79 (by decide) ?_
  refine lv_iload_n hx hb dX9_number_81 rfl (lv_at hl 1 rfl) ?_
  refine lv_imul hx hb dX9_number_82 ?_
  refine tp_i (y := nI (10 * v_29)) (pk_mul 10 v_29) ?_
  refine lv_aload_n hx hb dX9_number_83 rfl (lv_at hl 4 rfl) ?_
  refine va_get (D := D) (ci := 9) (v := .ref (ad 0)) (C := RX9) (T := TX9) (N := 44) hx hb hts hin9 hown hK hP 0 rfl rfl 0 (by decide) (hts (.fieldLink RX9 7 "HoneyHouseModel" "tape" "[I") (List.mem_of_getElem? (i := 3) rfl)) (fun _ h9 => h9) rfl dX9_number_84 ?_
  refine lv_aload_n hx hb dX9_number_87 rfl (lv_at hl 4 rfl) ?_
  refine va_get (D := D) (ci := 9) (v := .int (nI a_26)) (C := RX9) (T := TX9) (N := 44) hx hb hts hin9 hown hK hP 0 rfl rfl 25 (by decide) (hts (.fieldLink RX9 87 "HoneyHouseModel" "at" "I") (List.mem_of_getElem? (i := 1) rfl)) (fun _ h9 => h9) rfl dX9_number_88 ?_
  refine va_iald (f := fv 0) (n := 400) hx hb hK hP 1 0 rfl rfl (vp_in_nI (n := a_26) (by omega) (by omega)) dX9_number_91 ?_
  refine lv_topi (fun z_98 hz_99 => ?_)
  rw [nI_clamp (n := a_26) (by omega)] at hz_99
  have e_z_98 : z_98 = nI (48 + d_58) := hz_99.trans (hz_54.symm.trans e_60)
  rw [e_z_98]
  refine lv_iadd hx hb dX9_number_92 ?_
  refine tp_i (y := nI ((10 * v_29) + (48 + d_58))) (nI_add (10 * v_29) (48 + d_58)) ?_
  refine lv_bipush (v := 48) hx hb dX9_number_93 (by decide) ?_
  refine lv_isub hx hb dX9_number_95 ?_
  refine tp_i (y := nI (((10 * v_29) + (48 + d_58)) - 48)) (pk_sub (a := (10 * v_29) + (48 + d_58)) (b := 48) (by omega)) ?_
  refine lv_istore_n (lv' := [(3, .int (nI (((10 * v_29) + (48 + d_58)) - 48))), (4, .int (nI n_30)), (2, .int (nI k25_3)), (1, .int (nI mo)), (0, .ref h0)]) hx hb dX9_number_96 rfl hl (by decide) rfl (fun ls hl => ?_)
  refine lv_aload_n hx hb dX9_number_97 rfl (lv_at hl 4 rfl) ?_
  refine lv_dup hx hb dX9_number_98 rfl ?_
  refine va_get (D := D) (ci := 9) (v := .int (nI a_26)) (C := RX9) (T := TX9) (N := 44) hx hb hts hin9 hown hK hP 0 rfl rfl 25 (by decide) (hts (.fieldLink RX9 87 "HoneyHouseModel" "at" "I") (List.mem_of_getElem? (i := 1) rfl)) (fun _ h9 => h9) rfl dX9_number_99 ?_
  refine lv_iconst (v := 1) hx hb dX9_number_102 (by decide) ?_
  refine lv_iadd hx hb dX9_number_103 ?_
  refine tp_i (y := nI (a_26 + 1)) (nI_add a_26 1) ?_
  refine va_put (D := D) (ci := 9) (v := .int (nI (a_26 + 1))) (ty := .int) (C := RX9) (T := TX9) (N := 44) hx hb hts hin9 tyX9 tyX9_ok nmX9 hown hK hP hD hS 0 rfl rfl 25 (by decide) (hts (.fieldLink RX9 87 "HoneyHouseModel" "at" "I") (List.mem_of_getElem? (i := 1) rfl)) (fun _ h9 => h9) rfl (tyX9_ok 25 (by decide)) rfl rfl (Nat.le_of_ble_eq_true rfl) dX9_number_104 (fun H locs hP hD hS => ?_)
  have hP : va_P D vwCl (mw h0 ad cs (upd (upd (upd iv 21 (nI k21_93)) 22 p22_94) 25 (nI (a_26 + 1))) fv gv) H := hP
  have hD : va_D A (mw h0 ad cs (upd (upd (upd iv 21 (nI k21_93)) 22 p22_94) 25 (nI (a_26 + 1))) fv gv) := hD
  refine lv_iinc (v := nI (n_30 + 1)) (lv' := [(4, .int (nI (n_30 + 1))), (3, .int (nI (((10 * v_29) + (48 + d_58)) - 48))), (2, .int (nI k25_3)), (1, .int (nI mo)), (0, .ref h0)]) hx hb dX9_number_107 hl (k := 1) rfl (nI_add n_30 1) (by decide) rfl (fun ls hl => ?_)
  refine lv_goto (tgt := 31) hx hb dX9_number_110 (by decide) ?_
  exact ih_25 (a_26 + 1, k21_93, p22_94, ((10 * v_29) + (48 + d_58)) - 48, n_30 + 1) (mw h0 ad cs (upd (upd (upd iv 21 (nI k21_93)) 22 p22_94) 25 (nI (a_26 + 1))) fv gv) _ _ ls (by show n26 - (a_26 + 1) < n26 - a_26; omega) ⟨rfl, (show (a_26 + 1) = k25_3 + (n_30 + 1) from by omega), (show (a_26 + 1) ≤ n26 from by omega), (show k21_93 ≤ 3 from by omega), (show (n_30 + 1) ≤ 5 ∨ 1 ≤ k21_93 from by omega), (show ((n_30 + 1) = 0 ∧ (((10 * v_29) + (48 + d_58)) - 48) = 0) ∨ ((n_30 + 1) = 1 ∧ (((10 * v_29) + (48 + d_58)) - 48) ≤ 9) ∨ ((n_30 + 1) = 2 ∧ (((10 * v_29) + (48 + d_58)) - 48) ≤ 99) ∨ ((n_30 + 1) = 3 ∧ (((10 * v_29) + (48 + d_58)) - 48) ≤ 999) ∨ ((n_30 + 1) = 4 ∧ (((10 * v_29) + (48 + d_58)) - 48) ≤ 9999) ∨ ((n_30 + 1) = 5 ∧ (((10 * v_29) + (48 + d_58)) - 48) ≤ 99999) ∨ ((n_30 + 1) = 6 ∧ (((10 * v_29) + (48 + d_58)) - 48) ≤ 999999) from by omega), (show ∀ i : Nat, k25_3 ≤ i → i < (a_26 + 1) → dgt (fv 0 i) from fun i h1 h2 => (Nat.lt_or_ge i a_26).elim (fun q9 => hdg_36 i h1 q9) (fun q9 => by rw [show i = a_26 by omega, ← hz_54, e_60]; exact dg_n hd_59)), (show (((10 * v_29) + (48 + d_58)) - 48) = vlN (fv 0) k25_3 (n_30 + 1) from (by rw [vlN, ← hvl_37, show k25_3 + n_30 = a_26 by omega, ← hz_54, e_60, nI_clamp (n := 48 + d_58) (by omega)]; omega)), (show (k21_93 = 0 ∧ (n_30 + 1) ≤ 5) ∨ (k21_93 = 1 ∧ (n_30 + 1) = 6 ∧ p22_94 = nI (k25_3 + 5)) from (Or.inr ⟨(q_97.1 (by omega)).1, by omega, (q_97.1 (by omega)).2.trans (congrArg nI (by omega))⟩)), (show k21_93 = 0 → p22_94 = iv 22 from fun h9 => absurd h9 (by omega))⟩ hP hD hS (lv_sub hl [0, 1, 2, 3, 4] rfl)
/-- what the name leaves behind -/
def NMF (f : Nat → Int32) (n b k : Nat) (p : Int32) (a : Nat) : Prop := (¬ wdE f n b = 11 ∧ k = 1 ∧ p = nI b) ∨ (wdE f n b = 11 ∧ b + 12 < teF f n b ∧ k = 1 ∧ p = nI (b + 12)) ∨ (wdE f n b = 11 ∧ ¬ b + 12 < teF f n b ∧ k = 0 ∧ skB f n a = nxF f n b)
/-- what a test leaves behind -/
def TSX (f : Nat → Int32) (n b k : Nat) (p : Int32) (a : Nat) : Prop := ∃ P w m v : Nat, tstR f n b k P w m v ∧ (k = 0 → skB f n a = P) ∧ (¬ k = 0 → p = nI P)
set_option maxHeartbeats 4000000 in
set_option maxRecDepth 100000 in
theorem m_name (l : Launch) (D : va_G) (h0 : Nat) (ad : Nat → Nat) (cs : Nat → ClassId) (iv : Nat → Int32) (fv : Nat → Nat → Int32) (gv : Nat → Int64) (n14 n21 n25 n26 : Nat)  (sz : Nat) (h14 : iv 14 = nI n14) (h21 : iv 21 = nI n21) (h25 : iv 25 = nI n25) (h26 : iv 26 = nI n26) (b15 : n14 ≤ 15) (z21 : n21 = 0) (b25 : n25 ≤ n26) (b26 : n26 ≤ 400) : Met l yX9_name wsX9_name ({ frames := 2, cells := 0, slots := 0, locals := 47 }) (va_Pc [.ref h0] (fun U => U.heap.size = sz ∧ va_P D vwCl (mw h0 ad cs iv fv gv) U.heap ∧ va_K D vwCl (mT cs) U ∧ va_D (fun _ => True) (mw h0 ad cs iv fv gv))) (va_Qv (fun _ : Unit => True) (fun (_ : Unit) (t : State) => ∃ (k21 : Nat) (p22 : Int32) (k25 : Nat) (f15 : Nat → Int32) (f16 : Nat → Int32), (n25 ≤ k25) ∧ (k25 ≤ n26) ∧ (k21 ≤ 3) ∧ (∀ i : Nat, ¬ i = n14 → f16 i = fv 16 i) ∧ (1 ≤ k21 ∨ ∃ k : Nat, k ≤ 12 ∧ f16 n14 = nI k) ∧ (NMF (fv 0) n26 (skB (fv 0) n26 n25) k21 p22 k25) ∧ (k21 = 0 → p22 = iv 22) ∧ va_P D vwCl (mw h0 ad cs (upd (upd (upd iv 21 (nI k21)) 22 p22) 25 (nI k25)) (uF (uF fv 15 f15) 16 f16) gv) t.heap ∧ va_K D vwCl (mT cs) t ∧ va_D (va_A (mw h0 ad cs iv fv gv) sz) (mw h0 ad cs (upd (upd (upd iv 21 (nI k21)) 22 p22) 25 (nI k25)) (uF (uF fv 15 f15) 16 f16) gv)) (va_A (mw h0 ad cs iv fv gv) sz)) 0 0 (va_A (mw h0 ad cs iv fv gv) sz) := by
  refine Met.ofW (cc := cX9_name) (maxL := 3) (ret := none) (by decide) rfl ?_
  intro p e s m args below meth c s₁ B hml hv
  obtain ⟨rfl, hsz, hP, hK, hD0⟩ := hv
  have hx := B.exec
  have hb := B.bytes
  have hr := B.returns
  have hts := atoms_spec (ws := wsX9_name) B.pre
  have hown : s.vm.findClass RX9 = some m.cls := findClass_of_methodNamed B.named
  have hlocks := B.notSynchronized
  subst hsz
  have hD := hD0.self (sz := s.heap.size)
  generalize hAe : va_A (mw h0 ad cs iv fv gv) s.heap.size = A at hD ⊢
  have hA : ∀ q : Nat, s.heap.size ≤ q → A q := fun q h => by rw [← hAe]; exact Or.inr h
  have hS : va_S A s.heap s.heap [] := va_S.rf
  have hin9 : ∀ w ∈ u_ws RX9 TX9 44, w ∈ wsX9_name := (fun _ h9 => List.mem_cons_of_mem _ ((List.mem_append_right _ h9)))
  have hl := lv_entry ([.ref h0]) (n := 3) (Nat.le_of_ble_eq_true rfl)
  rw [lg_entry_eq]
  generalize (lg_sl ([.ref h0]) ++ List.replicate (3 - (lg_sl ([.ref h0])).length) Slot.unset).toArray = ls at hl ⊢
  have hl : lv_has ls 3 [(0, .ref h0)] := hl
  refine lv_aload_n hx hb dX9_name_0 rfl (lv_at hl 0 rfl) ?_
  have hFc := free_all hD hS hA
  refine va_calli (va_runV (As := []) (rest := []) ⟨hx, hb, hml, hown, hts⟩ (m_here l D h0 ad cs iv fv gv n25 n26  s.heap.size h25 h26 (by omega) (by omega)) (cwV 0 hts gX9_name_X9_here rfl rfl rfl (by decide +kernel) ⟨Nat.le_of_ble_eq_true rfl, Nat.le_of_ble_eq_true rfl⟩) ⟨fun a U g mk q => by obtain ⟨q0, q1, qP, qK, qD⟩ := q; exact ⟨q0, q1, qP, va_K.moved (u := U) (U := U.calling g mk a) (Vm.Alike.refl U.vm) qK, qD⟩, va_recv hK hP (ci := 9) (q0 := 0) rfl rfl, fun U hU hW => ⟨rfl, by rw [hU], by rw [hU]; exact hP, va_K.moved hW.alike hK, hD.weaken (fun _ _ _ _ => trivial)⟩⟩ rfl rfl hl.1 rfl (lv_room (Nat.le_of_ble_eq_true rfl)) dX9_name_1 ⟨Nat.le_of_ble_eq_true rfl, Nat.le_of_ble_eq_true rfl⟩) hS (fun q _ h => hFc q h) hFc (fun r_1 u t H1 locs ht hvm w_2 hB hz1 hk1 hS => ?_)
  subst w_2
  obtain ⟨k25_3, q_4, q_5, q_6, q_7, q_8, q_9, hP1, hK1, hD1⟩ := hB
  rw [ht] at hP1
  have hK := va_K.moved hvm.symm hK1
  generalize H1 = H at hP1 hS ⊢
  have hP : va_P D vwCl (mw h0 ad cs (upd iv 25 (nI k25_3)) fv gv) H := hP1
  have hD : va_D A (mw h0 ad cs (upd iv 25 (nI k25_3)) fv gv) := hD1.weaken (fun _ _ _ h => hFc _ h)
  refine vp_callSi (W.runS (As := [.int r_1]) (rest := []) ⟨hx, hb, hml, hown, hts⟩ (s_X9_isLetter l r_1) (va_cwS 1 hts gX9_name_X9_isLetter rfl rfl rfl (by decide +kernel) ⟨Nat.le_of_ble_eq_true rfl, Nat.le_of_ble_eq_true rfl⟩) ⟨fun a U g mk q => q, fun U hU hW => ⟨rfl, trivial⟩⟩ rfl rfl hl.1 rfl (lv_room (Nat.le_of_ble_eq_true rfl)) dX9_name_4 ⟨Nat.le_of_ble_eq_true rfl, Nat.le_of_ble_eq_true rfl⟩) (fun r_10 k_11 => ?_)
  rcases k_11 with ⟨rfl, lt_12⟩ | ⟨rfl, lt_12⟩
  · refine lv_if_ne (tgt := 20) hx hb dX9_name_7 (by decide) (fun c_13 => absurd (by decide) c_13) (fun c_13 => ?_)
    refine lv_aload_n hx hb dX9_name_10 rfl (lv_at hl 0 rfl) ?_
    refine lv_iconst (v := 1) hx hb dX9_name_11 (by decide) ?_
    refine lv_aload_n hx hb dX9_name_12 rfl (lv_at hl 0 rfl) ?_
    refine va_get (D := D) (ci := 9) (v := .int (nI k25_3)) (C := RX9) (T := TX9) (N := 44) hx hb hts hin9 hown hK hP 0 rfl rfl 25 (by decide) (hts (.fieldLink RX9 87 "HoneyHouseModel" "at" "I") (List.mem_of_getElem? (i := 1) rfl)) (fun _ h9 => h9) rfl dX9_name_13 ?_
    have hFc := free_all hD hS hA
    refine va_callv (va_runV (As := [.int 1, .int (nI k25_3)]) (rest := []) ⟨hx, hb, hml, hown, hts⟩ (m_blame l D h0 ad cs (upd iv 25 (nI k25_3)) fv gv n21 1 (nI k25_3) H.size h21 (by omega) (by omega)) (cwV 2 hts gX9_name_X9_blame rfl rfl rfl (by decide +kernel) ⟨Nat.le_of_ble_eq_true rfl, Nat.le_of_ble_eq_true rfl⟩) ⟨fun a U g mk q => by obtain ⟨q0, q1, qP, qK, qD⟩ := q; exact ⟨q0, q1, qP, va_K.moved (u := U) (U := U.calling g mk a) (Vm.Alike.refl U.vm) qK, qD⟩, va_recv hK hP (ci := 9) (q0 := 0) rfl rfl, fun U hU hW => ⟨rfl, by rw [hU], by rw [hU]; exact hP, va_K.moved hW.alike hK, hD.weaken (fun _ _ _ _ => trivial)⟩⟩ rfl rfl hl.1 rfl (lv_room (Nat.le_of_ble_eq_true rfl)) dX9_name_16 ⟨Nat.le_of_ble_eq_true rfl, Nat.le_of_ble_eq_true rfl⟩) hS (fun q _ h => hFc q h) hFc (fun u t H1 locs ht hvm w_15 hB hz1 hk1 hS => ?_)
    obtain ⟨k21_16, p22_17, q_18, q_19, q_20, hP1, hK1, hD1⟩ := hB
    replace q_20 : (n21 = 0 → k21_16 = 1 ∧ p22_17 = (nI k25_3)) ∧ (¬ n21 = 0 → k21_16 = n21 ∧ p22_17 = (iv 22)) := q_20
    rw [ht] at hP1
    have hK := va_K.moved hvm.symm hK1
    generalize H1 = H at hP1 hS ⊢
    have hP : va_P D vwCl (mw h0 ad cs (upd (upd (upd iv 21 (nI k21_16)) 22 p22_17) 25 (nI k25_3)) fv gv) H := hP1
    have hD : va_D A (mw h0 ad cs (upd (upd (upd iv 21 (nI k21_16)) 22 p22_17) 25 (nI k25_3)) fv gv) := hD1.weaken (fun _ _ _ h => hFc _ h)
    have hP : va_P D vwCl (mw h0 ad cs (upd (upd (upd iv 21 (nI k21_16)) 22 p22_17) 25 (nI k25_3)) (uF (uF fv 15 (fv 15)) 16 (fv 16)) gv) H := hP
    have hD : va_D A (mw h0 ad cs (upd (upd (upd iv 21 (nI k21_16)) 22 p22_17) 25 (nI k25_3)) (uF (uF fv 15 (fv 15)) 16 (fv 16)) gv) := hD
    exact W.vret hx hb hr (fun t ht hW => ⟨⟨(), rfl, trivial, k21_16, p22_17, k25_3, fv 15, fv 16, by omega, by omega, by omega, fun i h9 => rfl, Or.inl (by omega), (by rw [show skB (fv 0) n26 n25 = k25_3 from q_9.eq]; exact Or.inl ⟨by rw [pk_no q_8 lt_12]; omega, (q_20.1 (by omega)).1, (q_20.1 (by omega)).2⟩), fun h9 => absurd h9 (by omega), by rw [ht]; exact hP, va_K.moved hW.alike hK, hD⟩, hS.F ht⟩) hS.2.2 dX9_name_19
  refine lv_if_ne (tgt := 20) hx hb dX9_name_7 (by decide) (fun c_21 => ?_) (fun c_21 => absurd c_21 (by decide))
  refine lv_aload_n hx hb dX9_name_20 rfl (lv_at hl 0 rfl) ?_
  refine vp_callSi (W.runV (As := []) (rest := []) ⟨hx, hb, hml, hown, hts⟩ (m_wordEnd l D h0 ad cs (upd iv 25 (nI k25_3)) fv gv k25_3 n26  rfl h26 (by omega) (by omega)) (cwV 0 hts gX9_name_X9_wordEnd rfl rfl rfl (by decide +kernel) ⟨Nat.le_of_ble_eq_true rfl, Nat.le_of_ble_eq_true rfl⟩) ⟨fun a U g mk q => ⟨q.1, q.2.1, va_K.moved (u := U) (U := U.calling g mk a) (Vm.Alike.refl U.vm) q.2.2⟩, va_recv hK hP (ci := 9) (q0 := 0) rfl rfl, fun U hU hW => ⟨rfl, by rw [hU]; exact hP, va_K.moved hW.alike hK⟩⟩ rfl rfl hl.1 rfl (lv_room (Nat.le_of_ble_eq_true rfl)) dX9_name_21 ⟨Nat.le_of_ble_eq_true rfl, Nat.le_of_ble_eq_true rfl⟩) (fun r_22 k_23 => ?_)
  obtain ⟨e_24, rfl, he_25⟩ := k_23
  have he_25b : k25_3 ≤ e_24 ∧ e_24 ≤ n26 := ⟨he_25.1, he_25.2.1⟩
  refine lv_istore_n (lv' := [(1, .int (nI e_24)), (0, .ref h0)]) hx hb dX9_name_24 rfl hl (by decide) rfl (fun ls hl => ?_)
  refine lv_aload_n hx hb dX9_name_25 rfl (lv_at hl 1 rfl) ?_
  refine lv_iload_n hx hb dX9_name_26 rfl (lv_at hl 0 rfl) ?_
  refine vp_callSi (W.runV (As := [.int (nI e_24)]) (rest := []) ⟨hx, hb, hml, hown, hts⟩ (m_word l D h0 ad cs (upd iv 25 (nI k25_3)) fv gv k25_3 n26 e_24 rfl h26 (by omega) he_25) (cwV 1 hts gX9_name_X9_word rfl rfl rfl (by decide +kernel) ⟨Nat.le_of_ble_eq_true rfl, Nat.le_of_ble_eq_true rfl⟩) ⟨fun a U g mk q => ⟨q.1, q.2.1, va_K.moved (u := U) (U := U.calling g mk a) (Vm.Alike.refl U.vm) q.2.2⟩, va_recv hK hP (ci := 9) (q0 := 0) rfl rfl, fun U hU hW => ⟨rfl, by rw [hU]; exact hP, va_K.moved hW.alike hK⟩⟩ rfl rfl hl.1 rfl (lv_room (Nat.le_of_ble_eq_true rfl)) dX9_name_27 ⟨Nat.le_of_ble_eq_true rfl, Nat.le_of_ble_eq_true rfl⟩) (fun r_26 k_27 => ?_)
  obtain ⟨c_28, rfl, hc_29, hs_30⟩ := k_27
  refine lv_bipush (v := 11) hx hb dX9_name_30 (by decide) ?_
  refine lv_icmp_eq (tgt := 44) hx hb dX9_name_32 (by decide) (fun c_31 => ?_) (fun c_31 => ?_)
  · have d_32 := n_eq (a := c_28) (b := 11) (by omega) (by omega) c_31
    refine lv_iload_n hx hb dX9_name_44 rfl (lv_at hl 0 rfl) ?_
    refine lv_aload_n hx hb dX9_name_45 rfl (lv_at hl 1 rfl) ?_
    refine va_get (D := D) (ci := 9) (v := .int (nI k25_3)) (C := RX9) (T := TX9) (N := 44) hx hb hts hin9 hown hK hP 0 rfl rfl 25 (by decide) (hts (.fieldLink RX9 87 "HoneyHouseModel" "at" "I") (List.mem_of_getElem? (i := 1) rfl)) (fun _ h9 => h9) rfl dX9_name_46 ?_
    refine lv_isub hx hb dX9_name_49 ?_
    refine tp_i (y := nI (e_24 - k25_3)) (pk_sub (a := e_24) (b := k25_3) (by omega)) ?_
    refine lv_bipush (v := 12) hx hb dX9_name_50 (by decide) ?_
    refine lv_icmp_le (tgt := 67) hx hb dX9_name_52 (by decide) (fun c_33 => ?_) (fun c_33 => ?_)
    · have d_34 := n_le (a := e_24 - k25_3) (b := 12) (by omega) (by omega) c_33
      refine lv_aload_n hx hb dX9_name_67 rfl (lv_at hl 1 rfl) ?_
      refine va_get (D := D) (ci := 9) (v := .int (iv 21)) (C := RX9) (T := TX9) (N := 44) hx hb hts hin9 hown hK hP 0 rfl rfl 21 (by decide) (hts (.fieldLink RX9 74 "HoneyHouseModel" "faultKind" "I") (List.mem_of_getElem? (i := 2) rfl)) (fun _ h9 => h9) rfl dX9_name_68 ?_
      refine tp_i (y := nI n21) (h21) ?_
      refine lv_if_le (tgt := 75) hx hb dX9_name_71 (by decide) (fun c_35 => ?_) (fun c_35 => ?_)
      · have d_36 := n_le (a := n21) (b := 0) (by omega) (by omega) c_35
        refine lv_aload_n hx hb dX9_name_75 rfl (lv_at hl 1 rfl) ?_
        refine va_get (D := D) (ci := 9) (v := .ref (ad 16)) (C := RX9) (T := TX9) (N := 44) hx hb hts hin9 hown hK hP 0 rfl rfl 16 (by decide) (hts (.fieldLink RX9 59 "HoneyHouseModel" "nameSize" "[I") (List.mem_of_getElem? (i := 3) rfl)) (fun _ h9 => h9) rfl dX9_name_76 ?_
        refine lv_aload_n hx hb dX9_name_79 rfl (lv_at hl 1 rfl) ?_
        refine va_get (D := D) (ci := 9) (v := .int (iv 14)) (C := RX9) (T := TX9) (N := 44) hx hb hts hin9 hown hK hP 0 rfl rfl 14 (by decide) (hts (.fieldLink RX9 53 "HoneyHouseModel" "rules" "I") (List.mem_of_getElem? (i := 4) rfl)) (fun _ h9 => h9) rfl dX9_name_80 ?_
        refine tp_i (y := nI n14) (h14) ?_
        refine lv_iload_n hx hb dX9_name_83 rfl (lv_at hl 0 rfl) ?_
        refine lv_aload_n hx hb dX9_name_84 rfl (lv_at hl 1 rfl) ?_
        refine va_get (D := D) (ci := 9) (v := .int (nI k25_3)) (C := RX9) (T := TX9) (N := 44) hx hb hts hin9 hown hK hP 0 rfl rfl 25 (by decide) (hts (.fieldLink RX9 87 "HoneyHouseModel" "at" "I") (List.mem_of_getElem? (i := 1) rfl)) (fun _ h9 => h9) rfl dX9_name_85 ?_
        refine lv_isub hx hb dX9_name_88 ?_
        refine tp_i (y := nI (e_24 - k25_3)) (pk_sub (a := e_24) (b := k25_3) (by omega)) ?_
        refine va_iast (f := fv 16) (n := 16) hx hb hK hP hD hS 12 11 rfl rfl (vp_in_nI (n := n14) (by omega) (by omega)) dX9_name_89 (fun H locs hP hD hS => ?_)
        have hP : va_P D vwCl (mw h0 ad cs (upd iv 25 (nI k25_3)) (uF fv 16 (upd (fv 16) (nI n14).toNatClampNeg (nI (e_24 - k25_3)))) gv) H := hP
        have hD : va_D A (mw h0 ad cs (upd iv 25 (nI k25_3)) (uF fv 16 (upd (fv 16) (nI n14).toNatClampNeg (nI (e_24 - k25_3)))) gv) := hD
        obtain ⟨f_37, hf_38⟩ : ∃ g9, g9 = upd (fv 16) (nI n14).toNatClampNeg (nI (e_24 - k25_3)) := ⟨_, rfl⟩
        rw [← hf_38] at hP hD
        rw [nI_clamp (n := n14) (by omega)] at hf_38
        refine lv_iconst (v := 0) hx hb dX9_name_90 (by decide) ?_
        refine lv_istore_n (lv' := [(2, .int 0), (1, .int (nI e_24)), (0, .ref h0)]) hx hb dX9_name_91 rfl hl (by decide) rfl (fun ls hl => ?_)
        have hlen : e_24 ≤ k25_3 + 12 := by omega
        refine lp_V (nL := 3) (σ := Nat × Nat × (Nat → Int32)) (lv := fun x9 => [(2, .int (nI x9.2.1)), (1, .int (nI e_24)), (0, .ref h0)]) (μ := fun x9 => e_24 - x9.1) (J := fun x9 ws9 => ws9 = (mw h0 ad cs (upd iv 25 (nI x9.1)) (uF (uF fv 15 x9.2.2) 16 f_37) gv) ∧ (x9.1 = k25_3 + x9.2.1) ∧ (x9.1 ≤ e_24)) (fun x9 ws9 H locs ls hj hP hD hS hl ih_39 => ?_) (k25_3, 0, fv 15) (mw h0 ad cs (upd iv 25 (nI k25_3)) (uF fv 16 f_37) gv) _ _ ls ⟨rfl, (show k25_3 = k25_3 + 0 from by omega), (show k25_3 ≤ e_24 from by omega)⟩ hP hD hS (lv_sub hl [0, 1, 2] rfl)
        obtain ⟨a_40, k_41, f15_42⟩ := x9
        replace hj : ws9 = (mw h0 ad cs (upd iv 25 (nI a_40)) (uF (uF fv 15 f15_42) 16 f_37) gv) ∧ (a_40 = k25_3 + k_41) ∧ (a_40 ≤ e_24) := hj
        obtain ⟨rfl, ha_43, hb_44⟩ := hj
        have hl : lv_has ls 3 [(2, .int (nI k_41)), (1, .int (nI e_24)), (0, .ref h0)] := hl
        refine lv_aload_n hx hb dX9_name_92 rfl (lv_at hl 2 rfl) ?_
        refine va_get (D := D) (ci := 9) (v := .int (nI a_40)) (C := RX9) (T := TX9) (N := 44) hx hb hts hin9 hown hK hP 0 rfl rfl 25 (by decide) (hts (.fieldLink RX9 87 "HoneyHouseModel" "at" "I") (List.mem_of_getElem? (i := 1) rfl)) (fun _ h9 => h9) rfl dX9_name_93 ?_
        refine lv_iload_n hx hb dX9_name_96 rfl (lv_at hl 1 rfl) ?_
        refine lv_icmp_ge (tgt := 139) hx hb dX9_name_97 (by decide) (fun c_45 => ?_) (fun c_45 => ?_)
        · have d_46 := n_le (a := e_24) (b := a_40) (by omega) (by omega) c_45
          have hP : va_P D vwCl (mw h0 ad cs (upd (upd (upd iv 21 (iv 21)) 22 (iv 22)) 25 (nI a_40)) (uF (uF fv 15 f15_42) 16 f_37) gv) H := hP
          have hD : va_D A (mw h0 ad cs (upd (upd (upd iv 21 (iv 21)) 22 (iv 22)) 25 (nI a_40)) (uF (uF fv 15 f15_42) 16 f_37) gv) := hD
          have hP := hP
          rw [h21] at hP hD
          exact W.vret hx hb hr (fun t ht hW => ⟨⟨(), rfl, trivial, n21, iv 22, a_40, f15_42, f_37, by omega, by omega, by omega, fun i h9 => by rw [hf_38]; exact up_ne h9, Or.inr ⟨e_24 - k25_3, by omega, by rw [hf_38]; exact up_eq⟩, (by rw [show skB (fv 0) n26 n25 = k25_3 from q_9.eq]; have h7 : wdE (fv 0) n26 k25_3 = c_28 := (hs_30.elim (fun h9 => wdE_at (by omega) h9.1 h9.2) (fun h9 => (wdE_11 (pk_y q_8 lt_12) h9.2).trans h9.1.symm)); have h6 : teF (fv 0) n26 k25_3 = e_24 := (teF_1 (pk_y q_8 lt_12)).trans he_25.r; exact Or.inr (Or.inr ⟨by omega, by omega, by omega, by rw [nxF, h6, show a_40 = e_24 by omega]⟩)), fun _ => rfl, by rw [ht]; exact hP, va_K.moved hW.alike hK, hD⟩, hS.F ht⟩) hS.2.2 dX9_name_139
        have d_47 := n_nle (a := e_24) (b := a_40) (by omega) (by omega) c_45
        refine lv_aload_n hx hb dX9_name_100 rfl (lv_at hl 2 rfl) ?_
        refine va_get (D := D) (ci := 9) (v := .ref (ad 15)) (C := RX9) (T := TX9) (N := 44) hx hb hts hin9 hown hK hP 0 rfl rfl 15 (by decide) (hts (.fieldLink RX9 56 "HoneyHouseModel" "names" "[I") (List.mem_of_getElem? (i := 5) rfl)) (fun _ h9 => h9) rfl dX9_name_101 ?_
        refine lv_bipush (v := 12) hx hb dX9_name_104 (by decide) ?_
        refine lv_aload_n hx hb dX9_name_106 rfl (lv_at hl 2 rfl) ?_
        refine va_get (D := D) (ci := 9) (v := .int (iv 14)) (C := RX9) (T := TX9) (N := 44) hx hb hts hin9 hown hK hP 0 rfl rfl 14 (by decide) (hts (.fieldLink RX9 53 "HoneyHouseModel" "rules" "I") (List.mem_of_getElem? (i := 4) rfl)) (fun _ h9 => h9) rfl dX9_name_107 ?_
        refine tp_i (y := nI n14) (h14) ?_
        refine lv_imul hx hb dX9_name_110 ?_
        refine tp_i (y := nI (12 * n14)) (pk_mul 12 n14) ?_
        refine lv_iload_n hx hb dX9_name_111 rfl (lv_at hl 0 rfl) ?_
        refine lv_iadd hx hb dX9_name_112 ?_
        refine tp_i (y := nI ((12 * n14) + k_41)) (nI_add (12 * n14) k_41) ?_
        refine lv_aload_n hx hb dX9_name_113 rfl (lv_at hl 2 rfl) ?_
        refine va_get (D := D) (ci := 9) (v := .ref (ad 0)) (C := RX9) (T := TX9) (N := 44) hx hb hts hin9 hown hK hP 0 rfl rfl 0 (by decide) (hts (.fieldLink RX9 7 "HoneyHouseModel" "tape" "[I") (List.mem_of_getElem? (i := 6) rfl)) (fun _ h9 => h9) rfl dX9_name_114 ?_
        refine lv_aload_n hx hb dX9_name_117 rfl (lv_at hl 2 rfl) ?_
        refine va_get (D := D) (ci := 9) (v := .int (nI a_40)) (C := RX9) (T := TX9) (N := 44) hx hb hts hin9 hown hK hP 0 rfl rfl 25 (by decide) (hts (.fieldLink RX9 87 "HoneyHouseModel" "at" "I") (List.mem_of_getElem? (i := 1) rfl)) (fun _ h9 => h9) rfl dX9_name_118 ?_
        refine va_iald (f := fv 0) (n := 400) hx hb hK hP 1 0 rfl rfl (vp_in_nI (n := a_40) (by omega) (by omega)) dX9_name_121 ?_
        refine lv_topi (fun z_48 hz_49 => ?_)
        refine va_iast (f := f15_42) (n := 192) hx hb hK hP hD hS 11 10 rfl rfl (vp_in_nI (n := (12 * n14) + k_41) (by omega) (by omega)) dX9_name_122 (fun H locs hP hD hS => ?_)
        have hP : va_P D vwCl (mw h0 ad cs (upd iv 25 (nI a_40)) (uF (uF fv 15 (upd f15_42 (nI ((12 * n14) + k_41)).toNatClampNeg z_48)) 16 f_37) gv) H := hP
        have hD : va_D A (mw h0 ad cs (upd iv 25 (nI a_40)) (uF (uF fv 15 (upd f15_42 (nI ((12 * n14) + k_41)).toNatClampNeg z_48)) 16 f_37) gv) := hD
        obtain ⟨f_50, hf_51⟩ : ∃ g9, g9 = upd f15_42 (nI ((12 * n14) + k_41)).toNatClampNeg z_48 := ⟨_, rfl⟩
        rw [← hf_51] at hP hD
        rw [nI_clamp (n := (12 * n14) + k_41) (by omega)] at hf_51
        refine lv_aload_n hx hb dX9_name_123 rfl (lv_at hl 2 rfl) ?_
        refine lv_dup hx hb dX9_name_124 rfl ?_
        refine va_get (D := D) (ci := 9) (v := .int (nI a_40)) (C := RX9) (T := TX9) (N := 44) hx hb hts hin9 hown hK hP 0 rfl rfl 25 (by decide) (hts (.fieldLink RX9 87 "HoneyHouseModel" "at" "I") (List.mem_of_getElem? (i := 1) rfl)) (fun _ h9 => h9) rfl dX9_name_125 ?_
        refine lv_iconst (v := 1) hx hb dX9_name_128 (by decide) ?_
        refine lv_iadd hx hb dX9_name_129 ?_
        refine tp_i (y := nI (a_40 + 1)) (nI_add a_40 1) ?_
        refine va_put (D := D) (ci := 9) (v := .int (nI (a_40 + 1))) (ty := .int) (C := RX9) (T := TX9) (N := 44) hx hb hts hin9 tyX9 tyX9_ok nmX9 hown hK hP hD hS 0 rfl rfl 25 (by decide) (hts (.fieldLink RX9 87 "HoneyHouseModel" "at" "I") (List.mem_of_getElem? (i := 1) rfl)) (fun _ h9 => h9) rfl (tyX9_ok 25 (by decide)) rfl rfl (Nat.le_of_ble_eq_true rfl) dX9_name_130 (fun H locs hP hD hS => ?_)
        have hP : va_P D vwCl (mw h0 ad cs (upd iv 25 (nI (a_40 + 1))) (uF (uF fv 15 f_50) 16 f_37) gv) H := hP
        have hD : va_D A (mw h0 ad cs (upd iv 25 (nI (a_40 + 1))) (uF (uF fv 15 f_50) 16 f_37) gv) := hD
        refine lv_iinc (v := nI (k_41 + 1)) (lv' := [(2, .int (nI (k_41 + 1))), (1, .int (nI e_24)), (0, .ref h0)]) hx hb dX9_name_133 hl (k := 0) rfl (nI_add k_41 1) (by decide) rfl (fun ls hl => ?_)
        refine lv_goto (tgt := 92) hx hb dX9_name_136 (by decide) ?_
        exact ih_39 (a_40 + 1, k_41 + 1, f_50) (mw h0 ad cs (upd iv 25 (nI (a_40 + 1))) (uF (uF fv 15 f_50) 16 f_37) gv) _ _ ls (by show e_24 - (a_40 + 1) < e_24 - a_40; omega) ⟨rfl, (show (a_40 + 1) = k25_3 + (k_41 + 1) from by omega), (show (a_40 + 1) ≤ e_24 from by omega)⟩ hP hD hS (lv_sub hl [0, 1, 2] rfl)
      have d_52 := n_nle (a := n21) (b := 0) (by omega) (by omega) c_35
      have hP : va_P D vwCl (mw h0 ad cs (upd (upd (upd iv 21 (iv 21)) 22 (iv 22)) 25 (nI k25_3)) (uF (uF fv 15 (fv 15)) 16 (fv 16)) gv) H := hP
      have hD : va_D A (mw h0 ad cs (upd (upd (upd iv 21 (iv 21)) 22 (iv 22)) 25 (nI k25_3)) (uF (uF fv 15 (fv 15)) 16 (fv 16)) gv) := hD
      have hP := hP
      rw [h21] at hP hD
      exact W.vret hx hb hr (fun t ht hW => ⟨⟨(), rfl, trivial, n21, iv 22, k25_3, fv 15, fv 16, by omega, by omega, by omega, fun i h9 => rfl, Or.inl (by omega), (by rw [show skB (fv 0) n26 n25 = k25_3 from q_9.eq]; have h7 : wdE (fv 0) n26 k25_3 = c_28 := (hs_30.elim (fun h9 => wdE_at (by omega) h9.1 h9.2) (fun h9 => (wdE_11 (pk_y q_8 lt_12) h9.2).trans h9.1.symm)); have h6 : teF (fv 0) n26 k25_3 = e_24 := (teF_1 (pk_y q_8 lt_12)).trans he_25.r; exact Or.inr (Or.inr ⟨by omega, by omega, by omega, by rw [nxF, h6, show k25_3 = e_24 by omega]⟩)), fun _ => rfl, by rw [ht]; exact hP, va_K.moved hW.alike hK, hD⟩, hS.F ht⟩) hS.2.2 dX9_name_74
    have d_53 := n_nle (a := e_24 - k25_3) (b := 12) (by omega) (by omega) c_33
    refine lv_aload_n hx hb dX9_name_55 rfl (lv_at hl 1 rfl) ?_
    refine lv_iconst (v := 1) hx hb dX9_name_56 (by decide) ?_
    refine lv_aload_n hx hb dX9_name_57 rfl (lv_at hl 1 rfl) ?_
    refine va_get (D := D) (ci := 9) (v := .int (nI k25_3)) (C := RX9) (T := TX9) (N := 44) hx hb hts hin9 hown hK hP 0 rfl rfl 25 (by decide) (hts (.fieldLink RX9 87 "HoneyHouseModel" "at" "I") (List.mem_of_getElem? (i := 1) rfl)) (fun _ h9 => h9) rfl dX9_name_58 ?_
    refine lv_bipush (v := 12) hx hb dX9_name_61 (by decide) ?_
    refine lv_iadd hx hb dX9_name_63 ?_
    refine tp_i (y := nI (k25_3 + 12)) (nI_add k25_3 12) ?_
    have hFc := free_all hD hS hA
    refine va_callv (va_runV (As := [.int 1, .int (nI (k25_3 + 12))]) (rest := []) ⟨hx, hb, hml, hown, hts⟩ (m_blame l D h0 ad cs (upd iv 25 (nI k25_3)) fv gv n21 1 (nI (k25_3 + 12)) H.size h21 (by omega) (by omega)) (cwV 2 hts gX9_name_X9_blame rfl rfl rfl (by decide +kernel) ⟨Nat.le_of_ble_eq_true rfl, Nat.le_of_ble_eq_true rfl⟩) ⟨fun a U g mk q => by obtain ⟨q0, q1, qP, qK, qD⟩ := q; exact ⟨q0, q1, qP, va_K.moved (u := U) (U := U.calling g mk a) (Vm.Alike.refl U.vm) qK, qD⟩, va_recv hK hP (ci := 9) (q0 := 0) rfl rfl, fun U hU hW => ⟨rfl, by rw [hU], by rw [hU]; exact hP, va_K.moved hW.alike hK, hD.weaken (fun _ _ _ _ => trivial)⟩⟩ rfl rfl hl.1 rfl (lv_room (Nat.le_of_ble_eq_true rfl)) dX9_name_64 ⟨Nat.le_of_ble_eq_true rfl, Nat.le_of_ble_eq_true rfl⟩) hS (fun q _ h => hFc q h) hFc (fun u t H1 locs ht hvm w_55 hB hz1 hk1 hS => ?_)
    obtain ⟨k21_56, p22_57, q_58, q_59, q_60, hP1, hK1, hD1⟩ := hB
    replace q_60 : (n21 = 0 → k21_56 = 1 ∧ p22_57 = (nI (k25_3 + 12))) ∧ (¬ n21 = 0 → k21_56 = n21 ∧ p22_57 = (iv 22)) := q_60
    rw [ht] at hP1
    have hK := va_K.moved hvm.symm hK1
    generalize H1 = H at hP1 hS ⊢
    have hP : va_P D vwCl (mw h0 ad cs (upd (upd (upd iv 21 (nI k21_56)) 22 p22_57) 25 (nI k25_3)) fv gv) H := hP1
    have hD : va_D A (mw h0 ad cs (upd (upd (upd iv 21 (nI k21_56)) 22 p22_57) 25 (nI k25_3)) fv gv) := hD1.weaken (fun _ _ _ h => hFc _ h)
    refine lv_aload_n hx hb dX9_name_67 rfl (lv_at hl 1 rfl) ?_
    refine va_get (D := D) (ci := 9) (v := .int (nI k21_56)) (C := RX9) (T := TX9) (N := 44) hx hb hts hin9 hown hK hP 0 rfl rfl 21 (by decide) (hts (.fieldLink RX9 74 "HoneyHouseModel" "faultKind" "I") (List.mem_of_getElem? (i := 2) rfl)) (fun _ h9 => h9) rfl dX9_name_68 ?_
    refine lv_if_le (tgt := 75) hx hb dX9_name_71 (by decide) (fun c_61 => absurd c_61 (nI_nle (n := k21_56) (by omega) (by omega))) (fun c_61 => ?_)
    have hP : va_P D vwCl (mw h0 ad cs (upd (upd (upd iv 21 (nI k21_56)) 22 p22_57) 25 (nI k25_3)) (uF (uF fv 15 (fv 15)) 16 (fv 16)) gv) H := hP
    have hD : va_D A (mw h0 ad cs (upd (upd (upd iv 21 (nI k21_56)) 22 p22_57) 25 (nI k25_3)) (uF (uF fv 15 (fv 15)) 16 (fv 16)) gv) := hD
    exact W.vret hx hb hr (fun t ht hW => ⟨⟨(), rfl, trivial, k21_56, p22_57, k25_3, fv 15, fv 16, by omega, by omega, by omega, fun i h9 => rfl, Or.inl (by omega), (by rw [show skB (fv 0) n26 n25 = k25_3 from q_9.eq]; have h7 : wdE (fv 0) n26 k25_3 = c_28 := (hs_30.elim (fun h9 => wdE_at (by omega) h9.1 h9.2) (fun h9 => (wdE_11 (pk_y q_8 lt_12) h9.2).trans h9.1.symm)); have h6 : teF (fv 0) n26 k25_3 = e_24 := (teF_1 (pk_y q_8 lt_12)).trans he_25.r; exact Or.inr (Or.inl ⟨by omega, by omega, (q_60.1 (by omega)).1, (q_60.1 (by omega)).2⟩)), fun h9 => absurd h9 (by omega), by rw [ht]; exact hP, va_K.moved hW.alike hK, hD⟩, hS.F ht⟩) hS.2.2 dX9_name_74
  have d_62 := n_ne (a := c_28) (b := 11) (by omega) (by omega) c_31
  refine lv_aload_n hx hb dX9_name_35 rfl (lv_at hl 1 rfl) ?_
  refine lv_iconst (v := 1) hx hb dX9_name_36 (by decide) ?_
  refine lv_aload_n hx hb dX9_name_37 rfl (lv_at hl 1 rfl) ?_
  refine va_get (D := D) (ci := 9) (v := .int (nI k25_3)) (C := RX9) (T := TX9) (N := 44) hx hb hts hin9 hown hK hP 0 rfl rfl 25 (by decide) (hts (.fieldLink RX9 87 "HoneyHouseModel" "at" "I") (List.mem_of_getElem? (i := 1) rfl)) (fun _ h9 => h9) rfl dX9_name_38 ?_
  have hFc := free_all hD hS hA
  refine va_callv (va_runV (As := [.int 1, .int (nI k25_3)]) (rest := []) ⟨hx, hb, hml, hown, hts⟩ (m_blame l D h0 ad cs (upd iv 25 (nI k25_3)) fv gv n21 1 (nI k25_3) H.size h21 (by omega) (by omega)) (cwV 2 hts gX9_name_X9_blame rfl rfl rfl (by decide +kernel) ⟨Nat.le_of_ble_eq_true rfl, Nat.le_of_ble_eq_true rfl⟩) ⟨fun a U g mk q => by obtain ⟨q0, q1, qP, qK, qD⟩ := q; exact ⟨q0, q1, qP, va_K.moved (u := U) (U := U.calling g mk a) (Vm.Alike.refl U.vm) qK, qD⟩, va_recv hK hP (ci := 9) (q0 := 0) rfl rfl, fun U hU hW => ⟨rfl, by rw [hU], by rw [hU]; exact hP, va_K.moved hW.alike hK, hD.weaken (fun _ _ _ _ => trivial)⟩⟩ rfl rfl hl.1 rfl (lv_room (Nat.le_of_ble_eq_true rfl)) dX9_name_41 ⟨Nat.le_of_ble_eq_true rfl, Nat.le_of_ble_eq_true rfl⟩) hS (fun q _ h => hFc q h) hFc (fun u t H1 locs ht hvm w_64 hB hz1 hk1 hS => ?_)
  obtain ⟨k21_65, p22_66, q_67, q_68, q_69, hP1, hK1, hD1⟩ := hB
  replace q_69 : (n21 = 0 → k21_65 = 1 ∧ p22_66 = (nI k25_3)) ∧ (¬ n21 = 0 → k21_65 = n21 ∧ p22_66 = (iv 22)) := q_69
  rw [ht] at hP1
  have hK := va_K.moved hvm.symm hK1
  generalize H1 = H at hP1 hS ⊢
  have hP : va_P D vwCl (mw h0 ad cs (upd (upd (upd iv 21 (nI k21_65)) 22 p22_66) 25 (nI k25_3)) fv gv) H := hP1
  have hD : va_D A (mw h0 ad cs (upd (upd (upd iv 21 (nI k21_65)) 22 p22_66) 25 (nI k25_3)) fv gv) := hD1.weaken (fun _ _ _ h => hFc _ h)
  refine lv_iload_n hx hb dX9_name_44 rfl (lv_at hl 0 rfl) ?_
  refine lv_aload_n hx hb dX9_name_45 rfl (lv_at hl 1 rfl) ?_
  refine va_get (D := D) (ci := 9) (v := .int (nI k25_3)) (C := RX9) (T := TX9) (N := 44) hx hb hts hin9 hown hK hP 0 rfl rfl 25 (by decide) (hts (.fieldLink RX9 87 "HoneyHouseModel" "at" "I") (List.mem_of_getElem? (i := 1) rfl)) (fun _ h9 => h9) rfl dX9_name_46 ?_
  refine lv_isub hx hb dX9_name_49 ?_
  refine tp_i (y := nI (e_24 - k25_3)) (pk_sub (a := e_24) (b := k25_3) (by omega)) ?_
  refine lv_bipush (v := 12) hx hb dX9_name_50 (by decide) ?_
  refine lv_icmp_le (tgt := 67) hx hb dX9_name_52 (by decide) (fun c_70 => ?_) (fun c_70 => ?_)
  · have d_71 := n_le (a := e_24 - k25_3) (b := 12) (by omega) (by omega) c_70
    refine lv_aload_n hx hb dX9_name_67 rfl (lv_at hl 1 rfl) ?_
    refine va_get (D := D) (ci := 9) (v := .int (nI k21_65)) (C := RX9) (T := TX9) (N := 44) hx hb hts hin9 hown hK hP 0 rfl rfl 21 (by decide) (hts (.fieldLink RX9 74 "HoneyHouseModel" "faultKind" "I") (List.mem_of_getElem? (i := 2) rfl)) (fun _ h9 => h9) rfl dX9_name_68 ?_
    refine lv_if_le (tgt := 75) hx hb dX9_name_71 (by decide) (fun c_72 => absurd c_72 (nI_nle (n := k21_65) (by omega) (by omega))) (fun c_72 => ?_)
    have hP : va_P D vwCl (mw h0 ad cs (upd (upd (upd iv 21 (nI k21_65)) 22 p22_66) 25 (nI k25_3)) (uF (uF fv 15 (fv 15)) 16 (fv 16)) gv) H := hP
    have hD : va_D A (mw h0 ad cs (upd (upd (upd iv 21 (nI k21_65)) 22 p22_66) 25 (nI k25_3)) (uF (uF fv 15 (fv 15)) 16 (fv 16)) gv) := hD
    exact W.vret hx hb hr (fun t ht hW => ⟨⟨(), rfl, trivial, k21_65, p22_66, k25_3, fv 15, fv 16, by omega, by omega, by omega, fun i h9 => rfl, Or.inl (by omega), (by rw [show skB (fv 0) n26 n25 = k25_3 from q_9.eq]; have h7 : wdE (fv 0) n26 k25_3 = c_28 := (hs_30.elim (fun h9 => wdE_at (by omega) h9.1 h9.2) (fun h9 => (wdE_11 (pk_y q_8 lt_12) h9.2).trans h9.1.symm)); have h6 : teF (fv 0) n26 k25_3 = e_24 := (teF_1 (pk_y q_8 lt_12)).trans he_25.r; exact Or.inl ⟨by omega, (q_69.1 (by omega)).1, (q_69.1 (by omega)).2⟩), fun h9 => absurd h9 (by omega), by rw [ht]; exact hP, va_K.moved hW.alike hK, hD⟩, hS.F ht⟩) hS.2.2 dX9_name_74
  have d_73 := n_nle (a := e_24 - k25_3) (b := 12) (by omega) (by omega) c_70
  refine lv_aload_n hx hb dX9_name_55 rfl (lv_at hl 1 rfl) ?_
  refine lv_iconst (v := 1) hx hb dX9_name_56 (by decide) ?_
  refine lv_aload_n hx hb dX9_name_57 rfl (lv_at hl 1 rfl) ?_
  refine va_get (D := D) (ci := 9) (v := .int (nI k25_3)) (C := RX9) (T := TX9) (N := 44) hx hb hts hin9 hown hK hP 0 rfl rfl 25 (by decide) (hts (.fieldLink RX9 87 "HoneyHouseModel" "at" "I") (List.mem_of_getElem? (i := 1) rfl)) (fun _ h9 => h9) rfl dX9_name_58 ?_
  refine lv_bipush (v := 12) hx hb dX9_name_61 (by decide) ?_
  refine lv_iadd hx hb dX9_name_63 ?_
  refine tp_i (y := nI (k25_3 + 12)) (nI_add k25_3 12) ?_
  have hFc := free_all hD hS hA
  refine va_callv (va_runV (As := [.int 1, .int (nI (k25_3 + 12))]) (rest := []) ⟨hx, hb, hml, hown, hts⟩ (m_blame l D h0 ad cs (upd (upd (upd iv 21 (nI k21_65)) 22 p22_66) 25 (nI k25_3)) fv gv k21_65 1 (nI (k25_3 + 12)) H.size rfl (by omega) (by omega)) (cwV 2 hts gX9_name_X9_blame rfl rfl rfl (by decide +kernel) ⟨Nat.le_of_ble_eq_true rfl, Nat.le_of_ble_eq_true rfl⟩) ⟨fun a U g mk q => by obtain ⟨q0, q1, qP, qK, qD⟩ := q; exact ⟨q0, q1, qP, va_K.moved (u := U) (U := U.calling g mk a) (Vm.Alike.refl U.vm) qK, qD⟩, va_recv hK hP (ci := 9) (q0 := 0) rfl rfl, fun U hU hW => ⟨rfl, by rw [hU], by rw [hU]; exact hP, va_K.moved hW.alike hK, hD.weaken (fun _ _ _ _ => trivial)⟩⟩ rfl rfl hl.1 rfl (lv_room (Nat.le_of_ble_eq_true rfl)) dX9_name_64 ⟨Nat.le_of_ble_eq_true rfl, Nat.le_of_ble_eq_true rfl⟩) hS (fun q _ h => hFc q h) hFc (fun u t H1 locs ht hvm w_75 hB hz1 hk1 hS => ?_)
  obtain ⟨k21_76, p22_77, q_78, q_79, q_80, hP1, hK1, hD1⟩ := hB
  replace q_80 : (k21_65 = 0 → k21_76 = 1 ∧ p22_77 = (nI (k25_3 + 12))) ∧ (¬ k21_65 = 0 → k21_76 = k21_65 ∧ p22_77 = (p22_66)) := q_80
  rw [ht] at hP1
  have hK := va_K.moved hvm.symm hK1
  generalize H1 = H at hP1 hS ⊢
  have hP : va_P D vwCl (mw h0 ad cs (upd (upd (upd iv 21 (nI k21_76)) 22 p22_77) 25 (nI k25_3)) fv gv) H := hP1
  have hD : va_D A (mw h0 ad cs (upd (upd (upd iv 21 (nI k21_76)) 22 p22_77) 25 (nI k25_3)) fv gv) := hD1.weaken (fun _ _ _ h => hFc _ h)
  refine lv_aload_n hx hb dX9_name_67 rfl (lv_at hl 1 rfl) ?_
  refine va_get (D := D) (ci := 9) (v := .int (nI k21_76)) (C := RX9) (T := TX9) (N := 44) hx hb hts hin9 hown hK hP 0 rfl rfl 21 (by decide) (hts (.fieldLink RX9 74 "HoneyHouseModel" "faultKind" "I") (List.mem_of_getElem? (i := 2) rfl)) (fun _ h9 => h9) rfl dX9_name_68 ?_
  refine lv_if_le (tgt := 75) hx hb dX9_name_71 (by decide) (fun c_81 => absurd c_81 (nI_nle (n := k21_76) (by omega) (by omega))) (fun c_81 => ?_)
  have hP : va_P D vwCl (mw h0 ad cs (upd (upd (upd iv 21 (nI k21_76)) 22 p22_77) 25 (nI k25_3)) (uF (uF fv 15 (fv 15)) 16 (fv 16)) gv) H := hP
  have hD : va_D A (mw h0 ad cs (upd (upd (upd iv 21 (nI k21_76)) 22 p22_77) 25 (nI k25_3)) (uF (uF fv 15 (fv 15)) 16 (fv 16)) gv) := hD
  exact W.vret hx hb hr (fun t ht hW => ⟨⟨(), rfl, trivial, k21_76, p22_77, k25_3, fv 15, fv 16, by omega, by omega, by omega, fun i h9 => rfl, Or.inl (by omega), (by rw [show skB (fv 0) n26 n25 = k25_3 from q_9.eq]; have h7 : wdE (fv 0) n26 k25_3 = c_28 := (hs_30.elim (fun h9 => wdE_at (by omega) h9.1 h9.2) (fun h9 => (wdE_11 (pk_y q_8 lt_12) h9.2).trans h9.1.symm)); have h6 : teF (fv 0) n26 k25_3 = e_24 := (teF_1 (pk_y q_8 lt_12)).trans he_25.r; exact Or.inl ⟨by omega, (q_80.2 (by omega)).1.trans (q_69.1 (by omega)).1, (q_80.2 (by omega)).2.trans (q_69.1 (by omega)).2⟩), fun h9 => absurd h9 (by omega), by rw [ht]; exact hP, va_K.moved hW.alike hK, hD⟩, hS.F ht⟩) hS.2.2 dX9_name_74
set_option maxHeartbeats 4000000 in
set_option maxRecDepth 100000 in
theorem m_add (l : Launch) (D : va_G) (h0 : Nat) (ad : Nat → Nat) (cs : Nat → ClassId) (iv : Nat → Int32) (fv : Nat → Nat → Int32) (gv : Nat → Int64) (n14 n30 : Nat) (a1 : Int32) (sz : Nat) (h14 : iv 14 = nI n14) (h30 : iv 30 = nI n30) (b15 : n14 ≤ 15) (b30 : n30 < 200) : Met l yX9_add wsX9_add ({ frames := 0, cells := 0, slots := 0, locals := 0 }) (va_Pc [.ref h0, .int a1] (fun U => U.heap.size = sz ∧ va_P D vwCl (mw h0 ad cs iv fv gv) U.heap ∧ va_K D vwCl (mT cs) U ∧ va_D (fun _ => True) (mw h0 ad cs iv fv gv))) (va_Qv (fun _ : Unit => True) (fun (_ : Unit) (t : State) => ∃ (f19 : Nat → Int32), (f19 = upd (fv 19) (200 * n14 + n30) a1) ∧ va_P D vwCl (mw h0 ad cs (upd iv 30 (nI (n30 + 1))) (uF fv 19 f19) gv) t.heap ∧ va_K D vwCl (mT cs) t ∧ va_D (va_A (mw h0 ad cs iv fv gv) sz) (mw h0 ad cs (upd iv 30 (nI (n30 + 1))) (uF fv 19 f19) gv)) (va_A (mw h0 ad cs iv fv gv) sz)) 0 0 (va_A (mw h0 ad cs iv fv gv) sz) := by
  refine Met.ofW (cc := cX9_add) (maxL := 2) (ret := none) (by decide) rfl ?_
  intro p e s m args below meth c s₁ B hml hv
  obtain ⟨rfl, hsz, hP, hK, hD0⟩ := hv
  have hx := B.exec
  have hb := B.bytes
  have hr := B.returns
  have hts := atoms_spec (ws := wsX9_add) B.pre
  have hown : s.vm.findClass RX9 = some m.cls := findClass_of_methodNamed B.named
  have hlocks := B.notSynchronized
  subst hsz
  have hD := hD0.self (sz := s.heap.size)
  generalize hAe : va_A (mw h0 ad cs iv fv gv) s.heap.size = A at hD ⊢
  have hA : ∀ q : Nat, s.heap.size ≤ q → A q := fun q h => by rw [← hAe]; exact Or.inr h
  have hS : va_S A s.heap s.heap [] := va_S.rf
  have hin9 : ∀ w ∈ u_ws RX9 TX9 44, w ∈ wsX9_add := (fun _ h9 => List.mem_cons_of_mem _ ((List.mem_append_right _ h9)))
  have hl := lv_entry ([.ref h0, .int a1]) (n := 2) (Nat.le_of_ble_eq_true rfl)
  rw [lg_entry_eq]
  generalize (lg_sl ([.ref h0, .int a1]) ++ List.replicate (2 - (lg_sl ([.ref h0, .int a1])).length) Slot.unset).toArray = ls at hl ⊢
  have hl : lv_has ls 2 [(0, .ref h0), (1, .int a1)] := hl
  refine lv_aload_n hx hb dX9_add_0 rfl (lv_at hl 0 rfl) ?_
  refine va_get (D := D) (ci := 9) (v := .ref (ad 19)) (C := RX9) (T := TX9) (N := 44) hx hb hts hin9 hown hK hP 0 rfl rfl 19 (by decide) (hts (.fieldLink RX9 68 "HoneyHouseModel" "code" "[I") (List.mem_of_getElem? (i := 1) rfl)) (fun _ h9 => h9) rfl dX9_add_1 ?_
  refine lv_sipush (v := 200) hx hb dX9_add_4 (by decide) ?_
  refine lv_aload_n hx hb dX9_add_7 rfl (lv_at hl 0 rfl) ?_
  refine va_get (D := D) (ci := 9) (v := .int (iv 14)) (C := RX9) (T := TX9) (N := 44) hx hb hts hin9 hown hK hP 0 rfl rfl 14 (by decide) (hts (.fieldLink RX9 53 "HoneyHouseModel" "rules" "I") (List.mem_of_getElem? (i := 2) rfl)) (fun _ h9 => h9) rfl dX9_add_8 ?_
  refine tp_i (y := nI n14) (h14) ?_
  refine lv_imul hx hb dX9_add_11 ?_
  refine tp_i (y := nI (200 * n14)) (pk_mul 200 n14) ?_
  refine lv_aload_n hx hb dX9_add_12 rfl (lv_at hl 0 rfl) ?_
  refine va_get (D := D) (ci := 9) (v := .int (iv 30)) (C := RX9) (T := TX9) (N := 44) hx hb hts hin9 hown hK hP 0 rfl rfl 30 (by decide) (hts (.fieldLink RX9 102 "HoneyHouseModel" "made" "I") (List.mem_of_getElem? (i := 3) rfl)) (fun _ h9 => h9) rfl dX9_add_13 ?_
  refine tp_i (y := nI n30) (h30) ?_
  refine lv_iadd hx hb dX9_add_16 ?_
  refine tp_i (y := nI ((200 * n14) + n30)) (nI_add (200 * n14) n30) ?_
  refine lv_iload_n hx hb dX9_add_17 rfl (lv_at hl 1 rfl) ?_
  refine va_iast (f := fv 19) (n := 3200) hx hb hK hP hD hS 15 14 rfl rfl (vp_in_nI (n := (200 * n14) + n30) (by omega) (by omega)) dX9_add_18 (fun H locs hP hD hS => ?_)
  have hP : va_P D vwCl (mw h0 ad cs iv (uF fv 19 (upd (fv 19) (nI ((200 * n14) + n30)).toNatClampNeg a1)) gv) H := hP
  have hD : va_D A (mw h0 ad cs iv (uF fv 19 (upd (fv 19) (nI ((200 * n14) + n30)).toNatClampNeg a1)) gv) := hD
  obtain ⟨f_1, hf_2⟩ : ∃ g9, g9 = upd (fv 19) (nI ((200 * n14) + n30)).toNatClampNeg a1 := ⟨_, rfl⟩
  rw [← hf_2] at hP hD
  rw [nI_clamp (n := (200 * n14) + n30) (by omega)] at hf_2
  refine lv_aload_n hx hb dX9_add_19 rfl (lv_at hl 0 rfl) ?_
  refine lv_dup hx hb dX9_add_20 rfl ?_
  refine va_get (D := D) (ci := 9) (v := .int (iv 30)) (C := RX9) (T := TX9) (N := 44) hx hb hts hin9 hown hK hP 0 rfl rfl 30 (by decide) (hts (.fieldLink RX9 102 "HoneyHouseModel" "made" "I") (List.mem_of_getElem? (i := 3) rfl)) (fun _ h9 => h9) rfl dX9_add_21 ?_
  refine tp_i (y := nI n30) (h30) ?_
  refine lv_iconst (v := 1) hx hb dX9_add_24 (by decide) ?_
  refine lv_iadd hx hb dX9_add_25 ?_
  refine tp_i (y := nI (n30 + 1)) (nI_add n30 1) ?_
  refine va_put (D := D) (ci := 9) (v := .int (nI (n30 + 1))) (ty := .int) (C := RX9) (T := TX9) (N := 44) hx hb hts hin9 tyX9 tyX9_ok nmX9 hown hK hP hD hS 0 rfl rfl 30 (by decide) (hts (.fieldLink RX9 102 "HoneyHouseModel" "made" "I") (List.mem_of_getElem? (i := 3) rfl)) (fun _ h9 => h9) rfl (tyX9_ok 30 (by decide)) rfl rfl (Nat.le_of_ble_eq_true rfl) dX9_add_26 (fun H locs hP hD hS => ?_)
  have hP : va_P D vwCl (mw h0 ad cs (upd iv 30 (nI (n30 + 1))) (uF fv 19 f_1) gv) H := hP
  have hD : va_D A (mw h0 ad cs (upd iv 30 (nI (n30 + 1))) (uF fv 19 f_1) gv) := hD
  have hP : va_P D vwCl (mw h0 ad cs (upd iv 30 (nI (n30 + 1))) (uF fv 19 f_1) gv) H := hP
  have hD : va_D A (mw h0 ad cs (upd iv 30 (nI (n30 + 1))) (uF fv 19 f_1) gv) := hD
  exact W.vret hx hb hr (fun t ht hW => ⟨⟨(), rfl, trivial, f_1, hf_2, by rw [ht]; exact hP, va_K.moved hW.alike hK, hD⟩, hS.F ht⟩) hS.2.2 dX9_add_29
set_option maxHeartbeats 4000000 in
set_option maxRecDepth 100000 in
theorem m_test_ (l : Launch) (D : va_G) (h0 : Nat) (ad : Nat → Nat) (cs : Nat → ClassId) (iv : Nat → Int32) (fv : Nat → Nat → Int32) (gv : Nat → Int64) (n14 n21 n25 n26 n30 : Nat)  (sz : Nat) (h14 : iv 14 = nI n14) (h21 : iv 21 = nI n21) (h25 : iv 25 = nI n25) (h26 : iv 26 = nI n26) (h30 : iv 30 = nI n30) (b15 : n14 ≤ 15) (z21 : n21 = 0) (b25 : n25 ≤ n26) (b26 : n26 ≤ 400) (b30 : 2 * n30 ≤ n25) : Met l yX9_test_ wsX9_test_ ({ frames := 3, cells := 0, slots := 0, locals := 67 }) (va_Pc [.ref h0] (fun U => U.heap.size = sz ∧ va_P D vwCl (mw h0 ad cs iv fv gv) U.heap ∧ va_K D vwCl (mT cs) U ∧ va_D (fun _ => True) (mw h0 ad cs iv fv gv))) (va_Qv (fun _ : Unit => True) (fun (_ : Unit) (t : State) => ∃ (k21 : Nat) (p22 : Int32) (k25 : Nat) (k30 : Nat) (f19 : Nat → Int32), (n25 ≤ k25) ∧ (k25 ≤ n26) ∧ (k21 ≤ 3) ∧ ((1 ≤ k21 ∧ k30 = n30 ∧ f19 = fv 19) ∨ (k21 = 0 ∧ k30 = n30 + 4 ∧ n25 + 8 ≤ k25 ∧ (∀ i : Nat, i < 200 * n14 + n30 → f19 i = fv 19 i) ∧ f19 (200 * n14 + n30) = 13 ∧ okT (f19 (200 * n14 + (n30 + 1))))) ∧ (TSX (fv 0) n26 (skB (fv 0) n26 n25) k21 p22 k25) ∧ (k21 = 0 → p22 = iv 22) ∧ va_P D vwCl (mw h0 ad cs (upd (upd (upd (upd iv 21 (nI k21)) 22 p22) 25 (nI k25)) 30 (nI k30)) (uF fv 19 f19) gv) t.heap ∧ va_K D vwCl (mT cs) t ∧ va_D (va_A (mw h0 ad cs iv fv gv) sz) (mw h0 ad cs (upd (upd (upd (upd iv 21 (nI k21)) 22 p22) 25 (nI k25)) 30 (nI k30)) (uF fv 19 f19) gv)) (va_A (mw h0 ad cs iv fv gv) sz)) 0 0 (va_A (mw h0 ad cs iv fv gv) sz) := by
  refine Met.ofW (cc := cX9_test_) (maxL := 5) (ret := none) (by decide) rfl ?_
  intro p e s m args below meth c s₁ B hml hv
  obtain ⟨rfl, hsz, hP, hK, hD0⟩ := hv
  have hx := B.exec
  have hb := B.bytes
  have hr := B.returns
  have hts := atoms_spec (ws := wsX9_test_) B.pre
  have hown : s.vm.findClass RX9 = some m.cls := findClass_of_methodNamed B.named
  have hlocks := B.notSynchronized
  subst hsz
  have hD := hD0.self (sz := s.heap.size)
  generalize hAe : va_A (mw h0 ad cs iv fv gv) s.heap.size = A at hD ⊢
  have hA : ∀ q : Nat, s.heap.size ≤ q → A q := fun q h => by rw [← hAe]; exact Or.inr h
  have hS : va_S A s.heap s.heap [] := va_S.rf
  have hin9 : ∀ w ∈ u_ws RX9 TX9 44, w ∈ wsX9_test_ := (fun _ h9 => List.mem_cons_of_mem _ ((List.mem_append_right _ h9)))
  have hl := lv_entry ([.ref h0]) (n := 5) (Nat.le_of_ble_eq_true rfl)
  rw [lg_entry_eq]
  generalize (lg_sl ([.ref h0]) ++ List.replicate (5 - (lg_sl ([.ref h0])).length) Slot.unset).toArray = ls at hl ⊢
  have hl : lv_has ls 5 [(0, .ref h0)] := hl
  refine lv_aload_n hx hb dX9_test__0 rfl (lv_at hl 0 rfl) ?_
  have hFc := free_all hD hS hA
  refine va_calli (va_runV (As := []) (rest := []) ⟨hx, hb, hml, hown, hts⟩ (m_peek l D h0 ad cs iv fv gv n25 n26  s.heap.size h25 h26 (by omega) (by omega)) (cwV 0 hts gX9_test__X9_peek rfl rfl rfl (by decide +kernel) ⟨Nat.le_of_ble_eq_true rfl, Nat.le_of_ble_eq_true rfl⟩) ⟨fun a U g mk q => by obtain ⟨q0, q1, qP, qK, qD⟩ := q; exact ⟨q0, q1, qP, va_K.moved (u := U) (U := U.calling g mk a) (Vm.Alike.refl U.vm) qK, qD⟩, va_recv hK hP (ci := 9) (q0 := 0) rfl rfl, fun U hU hW => ⟨rfl, by rw [hU], by rw [hU]; exact hP, va_K.moved hW.alike hK, hD.weaken (fun _ _ _ _ => trivial)⟩⟩ rfl rfl hl.1 rfl (lv_room (Nat.le_of_ble_eq_true rfl)) dX9_test__1 ⟨Nat.le_of_ble_eq_true rfl, Nat.le_of_ble_eq_true rfl⟩) hS (fun q _ h => hFc q h) hFc (fun r_1 u t H1 locs ht hvm w_2 hB hz1 hk1 hS => ?_)
  subst w_2
  obtain ⟨k25_3, q_4, q_5, q_6, q_7, q_8, hP1, hK1, hD1⟩ := hB
  rw [ht] at hP1
  have hK := va_K.moved hvm.symm hK1
  generalize H1 = H at hP1 hS ⊢
  have hP : va_P D vwCl (mw h0 ad cs (upd iv 25 (nI k25_3)) fv gv) H := hP1
  have hD : va_D A (mw h0 ad cs (upd iv 25 (nI k25_3)) fv gv) := hD1.weaken (fun _ _ _ h => hFc _ h)
  rcases q_7 with ⟨rfl, hw_13⟩ | ⟨c_9, e_10, rfl, he_11, hc_12, hw_13⟩
  · refine lv_istore_n (lv' := [(1, .int (-1)), (0, .ref h0)]) hx hb dX9_test__4 rfl hl (by decide) rfl (fun ls hl => ?_)
    refine lv_iload_n hx hb dX9_test__5 rfl (lv_at hl 0 rfl) ?_
    refine lv_iconst (v := 4) hx hb dX9_test__6 (by decide) ?_
    refine lv_icmp_lt (tgt := 16) hx hb dX9_test__7 (by decide) (fun c_14 => ?_) (fun c_14 => absurd (by decide) c_14)
    refine lv_aload_n hx hb dX9_test__16 rfl (lv_at hl 1 rfl) ?_
    refine lv_iconst (v := 1) hx hb dX9_test__17 (by decide) ?_
    refine lv_aload_n hx hb dX9_test__18 rfl (lv_at hl 1 rfl) ?_
    refine va_get (D := D) (ci := 9) (v := .int (nI k25_3)) (C := RX9) (T := TX9) (N := 44) hx hb hts hin9 hown hK hP 0 rfl rfl 25 (by decide) (hts (.fieldLink RX9 87 "HoneyHouseModel" "at" "I") (List.mem_of_getElem? (i := 1) rfl)) (fun _ h9 => h9) rfl dX9_test__19 ?_
    have hFc := free_all hD hS hA
    refine va_callv (va_runV (As := [.int 1, .int (nI k25_3)]) (rest := []) ⟨hx, hb, hml, hown, hts⟩ (m_blame l D h0 ad cs (upd iv 25 (nI k25_3)) fv gv n21 1 (nI k25_3) H.size h21 (by omega) (by omega)) (cwV 2 hts gX9_test__X9_blame rfl rfl rfl (by decide +kernel) ⟨Nat.le_of_ble_eq_true rfl, Nat.le_of_ble_eq_true rfl⟩) ⟨fun a U g mk q => by obtain ⟨q0, q1, qP, qK, qD⟩ := q; exact ⟨q0, q1, qP, va_K.moved (u := U) (U := U.calling g mk a) (Vm.Alike.refl U.vm) qK, qD⟩, va_recv hK hP (ci := 9) (q0 := 0) rfl rfl, fun U hU hW => ⟨rfl, by rw [hU], by rw [hU]; exact hP, va_K.moved hW.alike hK, hD.weaken (fun _ _ _ _ => trivial)⟩⟩ rfl rfl hl.1 rfl (lv_room (Nat.le_of_ble_eq_true rfl)) dX9_test__22 ⟨Nat.le_of_ble_eq_true rfl, Nat.le_of_ble_eq_true rfl⟩) hS (fun q _ h => hFc q h) hFc (fun u t H1 locs ht hvm w_16 hB hz1 hk1 hS => ?_)
    obtain ⟨k21_17, p22_18, q_19, q_20, q_21, hP1, hK1, hD1⟩ := hB
    replace q_21 : (n21 = 0 → k21_17 = 1 ∧ p22_18 = (nI k25_3)) ∧ (¬ n21 = 0 → k21_17 = n21 ∧ p22_18 = (iv 22)) := q_21
    rw [ht] at hP1
    have hK := va_K.moved hvm.symm hK1
    generalize H1 = H at hP1 hS ⊢
    have hP : va_P D vwCl (mw h0 ad cs (upd (upd (upd iv 21 (nI k21_17)) 22 p22_18) 25 (nI k25_3)) fv gv) H := hP1
    have hD : va_D A (mw h0 ad cs (upd (upd (upd iv 21 (nI k21_17)) 22 p22_18) 25 (nI k25_3)) fv gv) := hD1.weaken (fun _ _ _ h => hFc _ h)
    have hP : va_P D vwCl (mw h0 ad cs (upd (upd (upd (upd iv 21 (nI k21_17)) 22 p22_18) 25 (nI k25_3)) 30 (iv 30)) (uF fv 19 (fv 19)) gv) H := hP
    have hD : va_D A (mw h0 ad cs (upd (upd (upd (upd iv 21 (nI k21_17)) 22 p22_18) 25 (nI k25_3)) 30 (iv 30)) (uF fv 19 (fv 19)) gv) := hD
    have hP := hP
    rw [h30] at hP hD
    exact W.vret hx hb hr (fun t ht hW => ⟨⟨(), rfl, trivial, k21_17, p22_18, k25_3, n30, fv 19, by omega, by omega, by omega, Or.inl ⟨by omega, by omega, rfl⟩, (by rw [show skB (fv 0) n26 n25 = k25_3 from q_8.eq]; exact ⟨k25_3, 0, 0, 0, Or.inl ⟨0, Or.inl ⟨by omega, (q_21.1 (by omega)).1, rfl⟩, by omega⟩, fun h9 => by omega, fun _ => (q_21.1 (by omega)).2⟩), fun h9 => absurd h9 (by omega), by rw [ht]; exact hP, va_K.moved hW.alike hK, hD⟩, hS.F ht⟩) hS.2.2 dX9_test__25
  have he_11b : k25_3 ≤ e_10 ∧ e_10 ≤ n26 := ⟨he_11.1, he_11.2.1⟩
  refine lv_istore_n (lv' := [(1, .int (nI c_9)), (0, .ref h0)]) hx hb dX9_test__4 rfl hl (by decide) rfl (fun ls hl => ?_)
  refine lv_iload_n hx hb dX9_test__5 rfl (lv_at hl 0 rfl) ?_
  refine lv_iconst (v := 4) hx hb dX9_test__6 (by decide) ?_
  refine lv_icmp_lt (tgt := 16) hx hb dX9_test__7 (by decide) (fun c_22 => ?_) (fun c_22 => ?_)
  · have d_23 := n_lt (a := c_9) (b := 4) (by omega) (by omega) c_22
    refine lv_aload_n hx hb dX9_test__16 rfl (lv_at hl 1 rfl) ?_
    refine lv_iconst (v := 1) hx hb dX9_test__17 (by decide) ?_
    refine lv_aload_n hx hb dX9_test__18 rfl (lv_at hl 1 rfl) ?_
    refine va_get (D := D) (ci := 9) (v := .int (nI k25_3)) (C := RX9) (T := TX9) (N := 44) hx hb hts hin9 hown hK hP 0 rfl rfl 25 (by decide) (hts (.fieldLink RX9 87 "HoneyHouseModel" "at" "I") (List.mem_of_getElem? (i := 1) rfl)) (fun _ h9 => h9) rfl dX9_test__19 ?_
    have hFc := free_all hD hS hA
    refine va_callv (va_runV (As := [.int 1, .int (nI k25_3)]) (rest := []) ⟨hx, hb, hml, hown, hts⟩ (m_blame l D h0 ad cs (upd iv 25 (nI k25_3)) fv gv n21 1 (nI k25_3) H.size h21 (by omega) (by omega)) (cwV 2 hts gX9_test__X9_blame rfl rfl rfl (by decide +kernel) ⟨Nat.le_of_ble_eq_true rfl, Nat.le_of_ble_eq_true rfl⟩) ⟨fun a U g mk q => by obtain ⟨q0, q1, qP, qK, qD⟩ := q; exact ⟨q0, q1, qP, va_K.moved (u := U) (U := U.calling g mk a) (Vm.Alike.refl U.vm) qK, qD⟩, va_recv hK hP (ci := 9) (q0 := 0) rfl rfl, fun U hU hW => ⟨rfl, by rw [hU], by rw [hU]; exact hP, va_K.moved hW.alike hK, hD.weaken (fun _ _ _ _ => trivial)⟩⟩ rfl rfl hl.1 rfl (lv_room (Nat.le_of_ble_eq_true rfl)) dX9_test__22 ⟨Nat.le_of_ble_eq_true rfl, Nat.le_of_ble_eq_true rfl⟩) hS (fun q _ h => hFc q h) hFc (fun u t H1 locs ht hvm w_25 hB hz1 hk1 hS => ?_)
    obtain ⟨k21_26, p22_27, q_28, q_29, q_30, hP1, hK1, hD1⟩ := hB
    replace q_30 : (n21 = 0 → k21_26 = 1 ∧ p22_27 = (nI k25_3)) ∧ (¬ n21 = 0 → k21_26 = n21 ∧ p22_27 = (iv 22)) := q_30
    rw [ht] at hP1
    have hK := va_K.moved hvm.symm hK1
    generalize H1 = H at hP1 hS ⊢
    have hP : va_P D vwCl (mw h0 ad cs (upd (upd (upd iv 21 (nI k21_26)) 22 p22_27) 25 (nI k25_3)) fv gv) H := hP1
    have hD : va_D A (mw h0 ad cs (upd (upd (upd iv 21 (nI k21_26)) 22 p22_27) 25 (nI k25_3)) fv gv) := hD1.weaken (fun _ _ _ h => hFc _ h)
    have hP : va_P D vwCl (mw h0 ad cs (upd (upd (upd (upd iv 21 (nI k21_26)) 22 p22_27) 25 (nI k25_3)) 30 (iv 30)) (uF fv 19 (fv 19)) gv) H := hP
    have hD : va_D A (mw h0 ad cs (upd (upd (upd (upd iv 21 (nI k21_26)) 22 p22_27) 25 (nI k25_3)) 30 (iv 30)) (uF fv 19 (fv 19)) gv) := hD
    have hP := hP
    rw [h30] at hP hD
    exact W.vret hx hb hr (fun t ht hW => ⟨⟨(), rfl, trivial, k21_26, p22_27, k25_3, n30, fv 19, by omega, by omega, by omega, Or.inl ⟨by omega, by omega, rfl⟩, (by rw [show skB (fv 0) n26 n25 = k25_3 from q_8.eq]; exact ⟨k25_3, 0, 0, 0, Or.inl ⟨0, Or.inl ⟨by omega, (q_30.1 (by omega)).1, rfl⟩, by omega⟩, fun h9 => by omega, fun _ => (q_30.1 (by omega)).2⟩), fun h9 => absurd h9 (by omega), by rw [ht]; exact hP, va_K.moved hW.alike hK, hD⟩, hS.F ht⟩) hS.2.2 dX9_test__25
  have d_31 := n_nlt (a := c_9) (b := 4) (by omega) (by omega) c_22
  refine lv_iload_n hx hb dX9_test__10 rfl (lv_at hl 0 rfl) ?_
  refine lv_bipush (v := 8) hx hb dX9_test__11 (by decide) ?_
  refine lv_icmp_le (tgt := 26) hx hb dX9_test__13 (by decide) (fun c_32 => ?_) (fun c_32 => ?_)
  · have d_33 := n_le (a := c_9) (b := 8) (by omega) (by omega) c_32
    refine lv_aload_n hx hb dX9_test__26 rfl (lv_at hl 1 rfl) ?_
    refine lv_aload_n hx hb dX9_test__27 rfl (lv_at hl 1 rfl) ?_
    refine vp_callSi (W.runV (As := []) (rest := [.ref h0]) ⟨hx, hb, hml, hown, hts⟩ (m_wordEnd l D h0 ad cs (upd iv 25 (nI k25_3)) fv gv k25_3 n26  rfl h26 (by omega) (by omega)) (cwV 0 hts gX9_test__X9_wordEnd rfl rfl rfl (by decide +kernel) ⟨Nat.le_of_ble_eq_true rfl, Nat.le_of_ble_eq_true rfl⟩) ⟨fun a U g mk q => ⟨q.1, q.2.1, va_K.moved (u := U) (U := U.calling g mk a) (Vm.Alike.refl U.vm) q.2.2⟩, va_recv hK hP (ci := 9) (q0 := 0) rfl rfl, fun U hU hW => ⟨rfl, by rw [hU]; exact hP, va_K.moved hW.alike hK⟩⟩ rfl rfl hl.1 rfl (lv_room (Nat.le_of_ble_eq_true rfl)) dX9_test__28 ⟨Nat.le_of_ble_eq_true rfl, Nat.le_of_ble_eq_true rfl⟩) (fun r_34 k_35 => ?_)
    obtain ⟨e_36, rfl, he_37⟩ := k_35
    have hq_e_36 : e_36 = e_10 := he_37.uq he_11
    refine va_put (D := D) (ci := 9) (v := .int (nI e_36)) (ty := .int) (C := RX9) (T := TX9) (N := 44) hx hb hts hin9 tyX9 tyX9_ok nmX9 hown hK hP hD hS 0 rfl rfl 25 (by decide) (hts (.fieldLink RX9 87 "HoneyHouseModel" "at" "I") (List.mem_of_getElem? (i := 1) rfl)) (fun _ h9 => h9) rfl (tyX9_ok 25 (by decide)) rfl rfl (Nat.le_of_ble_eq_true rfl) dX9_test__31 (fun H locs hP hD hS => ?_)
    have hP : va_P D vwCl (mw h0 ad cs (upd iv 25 (nI e_36)) fv gv) H := hP
    have hD : va_D A (mw h0 ad cs (upd iv 25 (nI e_36)) fv gv) := hD
    refine lv_iload_n hx hb dX9_test__34 rfl (lv_at hl 0 rfl) ?_
    refine lv_iconst (v := 4) hx hb dX9_test__35 (by decide) ?_
    refine lv_icmp_ne (tgt := 43) hx hb dX9_test__36 (by decide) (fun c_38 => ?_) (fun c_38 => ?_)
    · have d_39 := n_ne (a := c_9) (b := 4) (by omega) (by omega) c_38
      refine lv_iload_n hx hb dX9_test__43 rfl (lv_at hl 0 rfl) ?_
      refine lv_iconst (v := 5) hx hb dX9_test__44 (by decide) ?_
      refine lv_icmp_ne (tgt := 52) hx hb dX9_test__45 (by decide) (fun c_40 => ?_) (fun c_40 => ?_)
      · have d_41 := n_ne (a := c_9) (b := 5) (by omega) (by omega) c_40
        refine lv_iload_n hx hb dX9_test__52 rfl (lv_at hl 0 rfl) ?_
        refine lv_bipush (v := 6) hx hb dX9_test__53 (by decide) ?_
        refine lv_icmp_ne (tgt := 62) hx hb dX9_test__55 (by decide) (fun c_42 => ?_) (fun c_42 => ?_)
        · have d_43 := n_ne (a := c_9) (b := 6) (by omega) (by omega) c_42
          refine lv_iload_n hx hb dX9_test__62 rfl (lv_at hl 0 rfl) ?_
          refine lv_bipush (v := 7) hx hb dX9_test__63 (by decide) ?_
          refine lv_icmp_ne (tgt := 79) hx hb dX9_test__65 (by decide) (fun c_44 => ?_) (fun c_44 => ?_)
          · have d_45 := n_ne (a := c_9) (b := 7) (by omega) (by omega) c_44
            have hwc : wdE (fv 0) n26 k25_3 = 8 := by omega
            refine lv_bipush (v := 30) hx hb dX9_test__79 (by decide) ?_
            refine lv_aload_n hx hb dX9_test__81 rfl (lv_at hl 1 rfl) ?_
            refine lv_iconst (v := 3) hx hb dX9_test__82 (by decide) ?_
            have hFc := free_all hD hS hA
            refine va_calli (va_runV (As := [.int 3]) (rest := [.int 30]) ⟨hx, hb, hml, hown, hts⟩ (m_number l D h0 ad cs (upd iv 25 (nI e_36)) fv gv n21 e_36 n26 3 H.size h21 rfl h26 (by omega) (by omega) (by omega) (by omega)) (cwV 1 hts gX9_test__X9_number rfl rfl rfl (by decide +kernel) ⟨Nat.le_of_ble_eq_true rfl, Nat.le_of_ble_eq_true rfl⟩) ⟨fun a U g mk q => by obtain ⟨q0, q1, qP, qK, qD⟩ := q; exact ⟨q0, q1, qP, va_K.moved (u := U) (U := U.calling g mk a) (Vm.Alike.refl U.vm) qK, qD⟩, va_recv hK hP (ci := 9) (q0 := 0) rfl rfl, fun U hU hW => ⟨rfl, by rw [hU], by rw [hU]; exact hP, va_K.moved hW.alike hK, hD.weaken (fun _ _ _ _ => trivial)⟩⟩ rfl rfl hl.1 rfl (lv_room (Nat.le_of_ble_eq_true rfl)) dX9_test__83 ⟨Nat.le_of_ble_eq_true rfl, Nat.le_of_ble_eq_true rfl⟩) hS (fun q _ h => hFc q h) hFc (fun r_46 u t H1 locs ht hvm w_47 hB hz1 hk1 hS => ?_)
            subst w_47
            obtain ⟨k21_48, p22_49, k25_50, q_51, q_52, q_53, q_54, q_55, q_56, hP1, hK1, hD1⟩ := hB
            replace q_55 : NUX ((fv 0)) n26 3 (skB ((fv 0)) n26 e_36) k21_48 p22_49 k25_50 r_46 := q_55
            replace q_56 : k21_48 = 0 → p22_49 = (iv 22) := q_56
            rw [ht] at hP1
            have hK := va_K.moved hvm.symm hK1
            generalize H1 = H at hP1 hS ⊢
            have hP : va_P D vwCl (mw h0 ad cs (upd (upd (upd iv 21 (nI k21_48)) 22 p22_49) 25 (nI k25_50)) fv gv) H := hP1
            have hD : va_D A (mw h0 ad cs (upd (upd (upd iv 21 (nI k21_48)) 22 p22_49) 25 (nI k25_50)) fv gv) := hD1.weaken (fun _ _ _ h => hFc _ h)
            rcases q_54 with hp_57 | ⟨rfl, hg_59⟩
            · obtain ⟨P_62, hP_63, hnr_64⟩ := q_55.no (by omega)
              refine lv_iadd hx hb dX9_test__86 ?_
              refine lv_istore_n (lv' := [(2, .int (30 + r_46)), (1, .int (nI c_9)), (0, .ref h0)]) hx hb dX9_test__87 rfl hl (by decide) rfl (fun ls hl => ?_)
              refine lv_aload_n hx hb dX9_test__88 rfl (lv_at hl 2 rfl) ?_
              refine va_get (D := D) (ci := 9) (v := .int (nI k21_48)) (C := RX9) (T := TX9) (N := 44) hx hb hts hin9 hown hK hP 0 rfl rfl 21 (by decide) (hts (.fieldLink RX9 74 "HoneyHouseModel" "faultKind" "I") (List.mem_of_getElem? (i := 2) rfl)) (fun _ h9 => h9) rfl dX9_test__89 ?_
              refine lv_if_le (tgt := 96) hx hb dX9_test__92 (by decide) (fun c_65 => absurd c_65 (nI_nle (n := k21_48) (by omega) (by omega))) (fun c_65 => ?_)
              have hP : va_P D vwCl (mw h0 ad cs (upd (upd (upd (upd iv 21 (nI k21_48)) 22 p22_49) 25 (nI k25_50)) 30 (iv 30)) (uF fv 19 (fv 19)) gv) H := hP
              have hD : va_D A (mw h0 ad cs (upd (upd (upd (upd iv 21 (nI k21_48)) 22 p22_49) 25 (nI k25_50)) 30 (iv 30)) (uF fv 19 (fv 19)) gv) := hD
              have hP := hP
              rw [h30] at hP hD
              exact W.vret hx hb hr (fun t ht hW => ⟨⟨(), rfl, trivial, k21_48, p22_49, k25_50, n30, fv 19, by omega, by omega, by omega, Or.inl ⟨by omega, by omega, rfl⟩, (by rw [show skB (fv 0) n26 n25 = k25_3 from q_8.eq]; have h6 : skB (fv 0) n26 e_36 = nxF (fv 0) n26 k25_3 := (by rw [nxF, teF_1 (wdE_sp (by omega) hw_13).2, he_11.r, hq_e_36]); exact ⟨P_62, 0, 0, 0, Or.inl ⟨_, (Or.inr (Or.inr (Or.inr (⟨hwc, 0, by rw [← h6]; exact hnr_64, rfl⟩))) : whtR (fv 0) n26 k25_3 k21_48 (P_62) (30 + 0)), by omega⟩, fun h9 => by omega, fun _ => hP_63⟩), fun h9 => absurd h9 (by omega), by rw [ht]; exact hP, va_K.moved hW.alike hK, hD⟩, hS.F ht⟩) hS.2.2 dX9_test__95
            obtain ⟨v_60, hv_61, rfl, hnr_64⟩ := q_55.ok
            have pe_66 : p22_49 = iv 22 := q_56 rfl
            refine lv_iadd hx hb dX9_test__86 ?_
            refine tp_i (y := nI (30 + v_60)) (nI_add 30 v_60) ?_
            refine lv_istore_n (lv' := [(2, .int (nI (30 + v_60))), (1, .int (nI c_9)), (0, .ref h0)]) hx hb dX9_test__87 rfl hl (by decide) rfl (fun ls hl => ?_)
            refine lv_aload_n hx hb dX9_test__88 rfl (lv_at hl 2 rfl) ?_
            refine va_get (D := D) (ci := 9) (v := .int (nI 0)) (C := RX9) (T := TX9) (N := 44) hx hb hts hin9 hown hK hP 0 rfl rfl 21 (by decide) (hts (.fieldLink RX9 74 "HoneyHouseModel" "faultKind" "I") (List.mem_of_getElem? (i := 2) rfl)) (fun _ h9 => h9) rfl dX9_test__89 ?_
            refine lv_if_le (tgt := 96) hx hb dX9_test__92 (by decide) (fun c_67 => ?_) (fun c_67 => absurd (by decide) c_67)
            refine lv_aload_n hx hb dX9_test__96 rfl (lv_at hl 2 rfl) ?_
            have hFc := free_all hD hS hA
            refine va_calli (va_runV (As := []) (rest := []) ⟨hx, hb, hml, hown, hts⟩ (m_peek l D h0 ad cs (upd (upd (upd iv 21 (nI 0)) 22 p22_49) 25 (nI k25_50)) fv gv k25_50 n26  H.size rfl h26 (by omega) (by omega)) (cwV 0 hts gX9_test__X9_peek rfl rfl rfl (by decide +kernel) ⟨Nat.le_of_ble_eq_true rfl, Nat.le_of_ble_eq_true rfl⟩) ⟨fun a U g mk q => by obtain ⟨q0, q1, qP, qK, qD⟩ := q; exact ⟨q0, q1, qP, va_K.moved (u := U) (U := U.calling g mk a) (Vm.Alike.refl U.vm) qK, qD⟩, va_recv hK hP (ci := 9) (q0 := 0) rfl rfl, fun U hU hW => ⟨rfl, by rw [hU], by rw [hU]; exact hP, va_K.moved hW.alike hK, hD.weaken (fun _ _ _ _ => trivial)⟩⟩ rfl rfl hl.1 rfl (lv_room (Nat.le_of_ble_eq_true rfl)) dX9_test__97 ⟨Nat.le_of_ble_eq_true rfl, Nat.le_of_ble_eq_true rfl⟩) hS (fun q _ h => hFc q h) hFc (fun r_68 u t H1 locs ht hvm w_69 hB hz1 hk1 hS => ?_)
            subst w_69
            obtain ⟨k25_70, q_71, q_72, q_73, q_74, q_75, hP1, hK1, hD1⟩ := hB
            replace q_73 : (k25_50 = n26 ∨ ¬ blk ((fv 0) k25_50)) → k25_70 = k25_50 := q_73
            replace q_74 : PKD ((fv 0)) n26 k25_70 r_68 := q_74
            replace q_75 : isRn blk ((fv 0)) n26 k25_50 k25_70 := q_75
            rw [ht] at hP1
            have hK := va_K.moved hvm.symm hK1
            generalize H1 = H at hP1 hS ⊢
            have hP : va_P D vwCl (mw h0 ad cs (upd (upd (upd iv 21 (nI 0)) 22 p22_49) 25 (nI k25_70)) fv gv) H := hP1
            have hD : va_D A (mw h0 ad cs (upd (upd (upd iv 21 (nI 0)) 22 p22_49) 25 (nI k25_70)) fv gv) := hD1.weaken (fun _ _ _ h => hFc _ h)
            rcases q_74 with ⟨rfl, hw_80⟩ | ⟨c_76, e_77, rfl, he_78, hc_79, hw_80⟩
            · refine lv_istore_n (lv' := [(3, .int (-1)), (2, .int (nI (30 + v_60))), (1, .int (nI c_9)), (0, .ref h0)]) hx hb dX9_test__100 rfl hl (by decide) rfl (fun ls hl => ?_)
              refine lv_iload_n hx hb dX9_test__101 rfl (lv_at hl 0 rfl) ?_
              refine lv_bipush (v := 9) hx hb dX9_test__102 (by decide) ?_
              refine lv_icmp_eq (tgt := 123) hx hb dX9_test__104 (by decide) (fun c_81 => absurd c_81 (by decide)) (fun c_81 => ?_)
              refine lv_iload_n hx hb dX9_test__107 rfl (lv_at hl 0 rfl) ?_
              refine lv_bipush (v := 10) hx hb dX9_test__108 (by decide) ?_
              refine lv_icmp_eq (tgt := 123) hx hb dX9_test__110 (by decide) (fun c_82 => absurd c_82 (by decide)) (fun c_82 => ?_)
              refine lv_aload_n hx hb dX9_test__113 rfl (lv_at hl 3 rfl) ?_
              refine lv_iconst (v := 1) hx hb dX9_test__114 (by decide) ?_
              refine lv_aload_n hx hb dX9_test__115 rfl (lv_at hl 3 rfl) ?_
              refine va_get (D := D) (ci := 9) (v := .int (nI k25_70)) (C := RX9) (T := TX9) (N := 44) hx hb hts hin9 hown hK hP 0 rfl rfl 25 (by decide) (hts (.fieldLink RX9 87 "HoneyHouseModel" "at" "I") (List.mem_of_getElem? (i := 1) rfl)) (fun _ h9 => h9) rfl dX9_test__116 ?_
              have hFc := free_all hD hS hA
              refine va_callv (va_runV (As := [.int 1, .int (nI k25_70)]) (rest := []) ⟨hx, hb, hml, hown, hts⟩ (m_blame l D h0 ad cs (upd (upd (upd iv 21 (nI 0)) 22 p22_49) 25 (nI k25_70)) fv gv 0 1 (nI k25_70) H.size rfl (by omega) (by omega)) (cwV 2 hts gX9_test__X9_blame rfl rfl rfl (by decide +kernel) ⟨Nat.le_of_ble_eq_true rfl, Nat.le_of_ble_eq_true rfl⟩) ⟨fun a U g mk q => by obtain ⟨q0, q1, qP, qK, qD⟩ := q; exact ⟨q0, q1, qP, va_K.moved (u := U) (U := U.calling g mk a) (Vm.Alike.refl U.vm) qK, qD⟩, va_recv hK hP (ci := 9) (q0 := 0) rfl rfl, fun U hU hW => ⟨rfl, by rw [hU], by rw [hU]; exact hP, va_K.moved hW.alike hK, hD.weaken (fun _ _ _ _ => trivial)⟩⟩ rfl rfl hl.1 rfl (lv_room (Nat.le_of_ble_eq_true rfl)) dX9_test__119 ⟨Nat.le_of_ble_eq_true rfl, Nat.le_of_ble_eq_true rfl⟩) hS (fun q _ h => hFc q h) hFc (fun u t H1 locs ht hvm w_84 hB hz1 hk1 hS => ?_)
              obtain ⟨k21_85, p22_86, q_87, q_88, q_89, hP1, hK1, hD1⟩ := hB
              replace q_89 : (0 = 0 → k21_85 = 1 ∧ p22_86 = (nI k25_70)) ∧ (¬ 0 = 0 → k21_85 = 0 ∧ p22_86 = (p22_49)) := q_89
              rw [ht] at hP1
              have hK := va_K.moved hvm.symm hK1
              generalize H1 = H at hP1 hS ⊢
              have hP : va_P D vwCl (mw h0 ad cs (upd (upd (upd iv 21 (nI k21_85)) 22 p22_86) 25 (nI k25_70)) fv gv) H := hP1
              have hD : va_D A (mw h0 ad cs (upd (upd (upd iv 21 (nI k21_85)) 22 p22_86) 25 (nI k25_70)) fv gv) := hD1.weaken (fun _ _ _ h => hFc _ h)
              have hP : va_P D vwCl (mw h0 ad cs (upd (upd (upd (upd iv 21 (nI k21_85)) 22 p22_86) 25 (nI k25_70)) 30 (iv 30)) (uF fv 19 (fv 19)) gv) H := hP
              have hD : va_D A (mw h0 ad cs (upd (upd (upd (upd iv 21 (nI k21_85)) 22 p22_86) 25 (nI k25_70)) 30 (iv 30)) (uF fv 19 (fv 19)) gv) := hD
              have hP := hP
              rw [h30] at hP hD
              exact W.vret hx hb hr (fun t ht hW => ⟨⟨(), rfl, trivial, k21_85, p22_86, k25_70, n30, fv 19, by omega, by omega, by omega, Or.inl ⟨by omega, by omega, rfl⟩, (by rw [show skB (fv 0) n26 n25 = k25_3 from q_8.eq]; have h6 : skB (fv 0) n26 e_36 = nxF (fv 0) n26 k25_3 := (by rw [nxF, teF_1 (wdE_sp (by omega) hw_13).2, he_11.r, hq_e_36]); have h5 : skB (fv 0) n26 k25_50 = k25_70 := q_75.eq; exact ⟨k25_70, 30 + v_60, 0, 0, Or.inr ⟨k25_70, by rw [← h5]; exact (Or.inr (Or.inr (Or.inr (⟨hwc, v_60, by rw [← h6]; exact hnr_64, rfl⟩))) : whtR (fv 0) n26 k25_3 0 (skB (fv 0) n26 k25_50) (30 + v_60)), Or.inl ⟨by omega, (q_89.1 (by omega)).1, rfl⟩⟩, fun h9 => by omega, fun _ => (q_89.1 (by omega)).2⟩), fun h9 => absurd h9 (by omega), by rw [ht]; exact hP, va_K.moved hW.alike hK, hD⟩, hS.F ht⟩) hS.2.2 dX9_test__122
            have he_78b : k25_70 ≤ e_77 ∧ e_77 ≤ n26 := ⟨he_78.1, he_78.2.1⟩
            refine lv_istore_n (lv' := [(3, .int (nI c_76)), (2, .int (nI (30 + v_60))), (1, .int (nI c_9)), (0, .ref h0)]) hx hb dX9_test__100 rfl hl (by decide) rfl (fun ls hl => ?_)
            refine lv_iload_n hx hb dX9_test__101 rfl (lv_at hl 0 rfl) ?_
            refine lv_bipush (v := 9) hx hb dX9_test__102 (by decide) ?_
            refine lv_icmp_eq (tgt := 123) hx hb dX9_test__104 (by decide) (fun c_90 => ?_) (fun c_90 => ?_)
            · have d_91 := n_eq (a := c_76) (b := 9) (by omega) (by omega) c_90
              refine lv_aload_n hx hb dX9_test__123 rfl (lv_at hl 3 rfl) ?_
              refine lv_aload_n hx hb dX9_test__124 rfl (lv_at hl 3 rfl) ?_
              refine vp_callSi (W.runV (As := []) (rest := [.ref h0]) ⟨hx, hb, hml, hown, hts⟩ (m_wordEnd l D h0 ad cs (upd (upd (upd iv 21 (nI 0)) 22 p22_49) 25 (nI k25_70)) fv gv k25_70 n26  rfl h26 (by omega) (by omega)) (cwV 0 hts gX9_test__X9_wordEnd rfl rfl rfl (by decide +kernel) ⟨Nat.le_of_ble_eq_true rfl, Nat.le_of_ble_eq_true rfl⟩) ⟨fun a U g mk q => ⟨q.1, q.2.1, va_K.moved (u := U) (U := U.calling g mk a) (Vm.Alike.refl U.vm) q.2.2⟩, va_recv hK hP (ci := 9) (q0 := 0) rfl rfl, fun U hU hW => ⟨rfl, by rw [hU]; exact hP, va_K.moved hW.alike hK⟩⟩ rfl rfl hl.1 rfl (lv_room (Nat.le_of_ble_eq_true rfl)) dX9_test__125 ⟨Nat.le_of_ble_eq_true rfl, Nat.le_of_ble_eq_true rfl⟩) (fun r_92 k_93 => ?_)
              obtain ⟨e_94, rfl, he_95⟩ := k_93
              have hq_e_94 : e_94 = e_77 := he_95.uq he_78
              refine va_put (D := D) (ci := 9) (v := .int (nI e_94)) (ty := .int) (C := RX9) (T := TX9) (N := 44) hx hb hts hin9 tyX9 tyX9_ok nmX9 hown hK hP hD hS 0 rfl rfl 25 (by decide) (hts (.fieldLink RX9 87 "HoneyHouseModel" "at" "I") (List.mem_of_getElem? (i := 1) rfl)) (fun _ h9 => h9) rfl (tyX9_ok 25 (by decide)) rfl rfl (Nat.le_of_ble_eq_true rfl) dX9_test__128 (fun H locs hP hD hS => ?_)
              have hP : va_P D vwCl (mw h0 ad cs (upd (upd (upd iv 21 (nI 0)) 22 p22_49) 25 (nI e_94)) fv gv) H := hP
              have hD : va_D A (mw h0 ad cs (upd (upd (upd iv 21 (nI 0)) 22 p22_49) 25 (nI e_94)) fv gv) := hD
              refine lv_aload_n hx hb dX9_test__131 rfl (lv_at hl 3 rfl) ?_
              refine lv_sipush (v := 1000) hx hb dX9_test__132 (by decide) ?_
              have hFc := free_all hD hS hA
              refine va_calli (va_runV (As := [.int 1000]) (rest := []) ⟨hx, hb, hml, hown, hts⟩ (m_number l D h0 ad cs (upd (upd (upd iv 21 (nI 0)) 22 p22_49) 25 (nI e_94)) fv gv 0 e_94 n26 1000 H.size rfl rfl h26 (by omega) (by omega) (by omega) (by omega)) (cwV 1 hts gX9_test__X9_number rfl rfl rfl (by decide +kernel) ⟨Nat.le_of_ble_eq_true rfl, Nat.le_of_ble_eq_true rfl⟩) ⟨fun a U g mk q => by obtain ⟨q0, q1, qP, qK, qD⟩ := q; exact ⟨q0, q1, qP, va_K.moved (u := U) (U := U.calling g mk a) (Vm.Alike.refl U.vm) qK, qD⟩, va_recv hK hP (ci := 9) (q0 := 0) rfl rfl, fun U hU hW => ⟨rfl, by rw [hU], by rw [hU]; exact hP, va_K.moved hW.alike hK, hD.weaken (fun _ _ _ _ => trivial)⟩⟩ rfl rfl hl.1 rfl (lv_room (Nat.le_of_ble_eq_true rfl)) dX9_test__135 ⟨Nat.le_of_ble_eq_true rfl, Nat.le_of_ble_eq_true rfl⟩) hS (fun q _ h => hFc q h) hFc (fun r_96 u t H1 locs ht hvm w_97 hB hz1 hk1 hS => ?_)
              subst w_97
              obtain ⟨k21_98, p22_99, k25_100, q_101, q_102, q_103, q_104, q_105, q_106, hP1, hK1, hD1⟩ := hB
              replace q_105 : NUX ((fv 0)) n26 1000 (skB ((fv 0)) n26 e_94) k21_98 p22_99 k25_100 r_96 := q_105
              replace q_106 : k21_98 = 0 → p22_99 = (p22_49) := q_106
              rw [ht] at hP1
              have hK := va_K.moved hvm.symm hK1
              generalize H1 = H at hP1 hS ⊢
              have hP : va_P D vwCl (mw h0 ad cs (upd (upd (upd iv 21 (nI k21_98)) 22 p22_99) 25 (nI k25_100)) fv gv) H := hP1
              have hD : va_D A (mw h0 ad cs (upd (upd (upd iv 21 (nI k21_98)) 22 p22_99) 25 (nI k25_100)) fv gv) := hD1.weaken (fun _ _ _ h => hFc _ h)
              rcases q_104 with hp_107 | ⟨rfl, hg_109⟩
              · obtain ⟨P_112, hP_113, hnr_114⟩ := q_105.no (by omega)
                refine lv_istore (lv' := [(4, .int r_96), (3, .int (nI c_76)), (2, .int (nI (30 + v_60))), (1, .int (nI c_9)), (0, .ref h0)]) hx hb dX9_test__138 hl (by decide) rfl (fun ls hl => ?_)
                refine lv_aload_n hx hb dX9_test__140 rfl (lv_at hl 4 rfl) ?_
                refine va_get (D := D) (ci := 9) (v := .int (nI k21_98)) (C := RX9) (T := TX9) (N := 44) hx hb hts hin9 hown hK hP 0 rfl rfl 21 (by decide) (hts (.fieldLink RX9 74 "HoneyHouseModel" "faultKind" "I") (List.mem_of_getElem? (i := 2) rfl)) (fun _ h9 => h9) rfl dX9_test__141 ?_
                refine lv_if_le (tgt := 148) hx hb dX9_test__144 (by decide) (fun c_115 => absurd c_115 (nI_nle (n := k21_98) (by omega) (by omega))) (fun c_115 => ?_)
                have hP : va_P D vwCl (mw h0 ad cs (upd (upd (upd (upd iv 21 (nI k21_98)) 22 p22_99) 25 (nI k25_100)) 30 (iv 30)) (uF fv 19 (fv 19)) gv) H := hP
                have hD : va_D A (mw h0 ad cs (upd (upd (upd (upd iv 21 (nI k21_98)) 22 p22_99) 25 (nI k25_100)) 30 (iv 30)) (uF fv 19 (fv 19)) gv) := hD
                have hP := hP
                rw [h30] at hP hD
                exact W.vret hx hb hr (fun t ht hW => ⟨⟨(), rfl, trivial, k21_98, p22_99, k25_100, n30, fv 19, by omega, by omega, by omega, Or.inl ⟨by omega, by omega, rfl⟩, (by rw [show skB (fv 0) n26 n25 = k25_3 from q_8.eq]; have h6 : skB (fv 0) n26 e_36 = nxF (fv 0) n26 k25_3 := (by rw [nxF, teF_1 (wdE_sp (by omega) hw_13).2, he_11.r, hq_e_36]); have h5 : skB (fv 0) n26 k25_50 = k25_70 := q_75.eq; have h4 : skB (fv 0) n26 e_94 = nxF (fv 0) n26 k25_70 := (by rw [nxF, teF_1 (wdE_sp (by omega) hw_80).2, he_78.r, hq_e_94]); exact ⟨P_112, 30 + v_60, c_76, 0, Or.inr ⟨k25_70, by rw [← h5]; exact (Or.inr (Or.inr (Or.inr (⟨hwc, v_60, by rw [← h6]; exact hnr_64, rfl⟩))) : whtR (fv 0) n26 k25_3 0 (skB (fv 0) n26 k25_50) (30 + v_60)), Or.inr ⟨by omega, by omega, by rw [← h4]; exact hnr_114⟩⟩, fun h9 => by omega, fun _ => hP_113⟩), fun h9 => absurd h9 (by omega), by rw [ht]; exact hP, va_K.moved hW.alike hK, hD⟩, hS.F ht⟩) hS.2.2 dX9_test__147
              obtain ⟨v_110, hv_111, rfl, hnr_114⟩ := q_105.ok
              have pe_116 : p22_99 = p22_49 := q_106 rfl
              refine lv_istore (lv' := [(4, .int (nI v_110)), (3, .int (nI c_76)), (2, .int (nI (30 + v_60))), (1, .int (nI c_9)), (0, .ref h0)]) hx hb dX9_test__138 hl (by decide) rfl (fun ls hl => ?_)
              refine lv_aload_n hx hb dX9_test__140 rfl (lv_at hl 4 rfl) ?_
              refine va_get (D := D) (ci := 9) (v := .int (nI 0)) (C := RX9) (T := TX9) (N := 44) hx hb hts hin9 hown hK hP 0 rfl rfl 21 (by decide) (hts (.fieldLink RX9 74 "HoneyHouseModel" "faultKind" "I") (List.mem_of_getElem? (i := 2) rfl)) (fun _ h9 => h9) rfl dX9_test__141 ?_
              refine lv_if_le (tgt := 148) hx hb dX9_test__144 (by decide) (fun c_117 => ?_) (fun c_117 => absurd (by decide) c_117)
              refine lv_aload_n hx hb dX9_test__148 rfl (lv_at hl 4 rfl) ?_
              refine lv_bipush (v := 13) hx hb dX9_test__149 (by decide) ?_
              have hFc := free_all hD hS hA
              refine va_callv (va_runV (As := [.int 13]) (rest := []) ⟨hx, hb, hml, hown, hts⟩ (m_add l D h0 ad cs (upd (upd (upd iv 21 (nI 0)) 22 p22_99) 25 (nI k25_100)) fv gv n14 n30 13 H.size h14 h30 (by omega) (by omega)) (cwV 1 hts gX9_test__X9_add rfl rfl rfl (by decide +kernel) ⟨Nat.le_of_ble_eq_true rfl, Nat.le_of_ble_eq_true rfl⟩) ⟨fun a U g mk q => by obtain ⟨q0, q1, qP, qK, qD⟩ := q; exact ⟨q0, q1, qP, va_K.moved (u := U) (U := U.calling g mk a) (Vm.Alike.refl U.vm) qK, qD⟩, va_recv hK hP (ci := 9) (q0 := 0) rfl rfl, fun U hU hW => ⟨rfl, by rw [hU], by rw [hU]; exact hP, va_K.moved hW.alike hK, hD.weaken (fun _ _ _ _ => trivial)⟩⟩ rfl rfl hl.1 rfl (lv_room (Nat.le_of_ble_eq_true rfl)) dX9_test__151 ⟨Nat.le_of_ble_eq_true rfl, Nat.le_of_ble_eq_true rfl⟩) hS (fun q _ h => hFc q h) hFc (fun u t H1 locs ht hvm w_119 hB hz1 hk1 hS => ?_)
              obtain ⟨f19_120, q_121, hP1, hK1, hD1⟩ := hB
              replace q_121 : f19_120 = upd ((fv 19)) (200 * n14 + n30) 13 := q_121
              rw [ht] at hP1
              have hK := va_K.moved hvm.symm hK1
              generalize H1 = H at hP1 hS ⊢
              have hP : va_P D vwCl (mw h0 ad cs (upd (upd (upd (upd iv 21 (nI 0)) 22 p22_99) 25 (nI k25_100)) 30 (nI (n30 + 1))) (uF fv 19 f19_120) gv) H := hP1
              have hD : va_D A (mw h0 ad cs (upd (upd (upd (upd iv 21 (nI 0)) 22 p22_99) 25 (nI k25_100)) 30 (nI (n30 + 1))) (uF fv 19 f19_120) gv) := hD1.weaken (fun _ _ _ h => hFc _ h)
              refine lv_aload_n hx hb dX9_test__154 rfl (lv_at hl 4 rfl) ?_
              refine lv_iload_n hx hb dX9_test__155 rfl (lv_at hl 2 rfl) ?_
              have hFc := free_all hD hS hA
              refine va_callv (va_runV (As := [.int (nI (30 + v_60))]) (rest := []) ⟨hx, hb, hml, hown, hts⟩ (m_add l D h0 ad cs (upd (upd (upd (upd iv 21 (nI 0)) 22 p22_99) 25 (nI k25_100)) 30 (nI (n30 + 1))) (uF fv 19 f19_120) gv n14 (n30 + 1) (nI (30 + v_60)) H.size h14 rfl (by omega) (by omega)) (cwV 1 hts gX9_test__X9_add rfl rfl rfl (by decide +kernel) ⟨Nat.le_of_ble_eq_true rfl, Nat.le_of_ble_eq_true rfl⟩) ⟨fun a U g mk q => by obtain ⟨q0, q1, qP, qK, qD⟩ := q; exact ⟨q0, q1, qP, va_K.moved (u := U) (U := U.calling g mk a) (Vm.Alike.refl U.vm) qK, qD⟩, va_recv hK hP (ci := 9) (q0 := 0) rfl rfl, fun U hU hW => ⟨rfl, by rw [hU], by rw [hU]; exact hP, va_K.moved hW.alike hK, hD.weaken (fun _ _ _ _ => trivial)⟩⟩ rfl rfl hl.1 rfl (lv_room (Nat.le_of_ble_eq_true rfl)) dX9_test__156 ⟨Nat.le_of_ble_eq_true rfl, Nat.le_of_ble_eq_true rfl⟩) hS (fun q _ h => hFc q h) hFc (fun u t H1 locs ht hvm w_123 hB hz1 hk1 hS => ?_)
              obtain ⟨f19_124, q_125, hP1, hK1, hD1⟩ := hB
              replace q_125 : f19_124 = upd ((f19_120)) (200 * n14 + (n30 + 1)) (nI (30 + v_60)) := q_125
              rw [ht] at hP1
              have hK := va_K.moved hvm.symm hK1
              generalize H1 = H at hP1 hS ⊢
              have hP : va_P D vwCl (mw h0 ad cs (upd (upd (upd (upd iv 21 (nI 0)) 22 p22_99) 25 (nI k25_100)) 30 (nI ((n30 + 1) + 1))) (uF fv 19 f19_124) gv) H := hP1
              have hD : va_D A (mw h0 ad cs (upd (upd (upd (upd iv 21 (nI 0)) 22 p22_99) 25 (nI k25_100)) 30 (nI ((n30 + 1) + 1))) (uF fv 19 f19_124) gv) := hD1.weaken (fun _ _ _ h => hFc _ h)
              refine lv_aload_n hx hb dX9_test__159 rfl (lv_at hl 4 rfl) ?_
              refine lv_iload_n hx hb dX9_test__160 rfl (lv_at hl 1 rfl) ?_
              have hFc := free_all hD hS hA
              refine va_callv (va_runV (As := [.int (nI c_76)]) (rest := []) ⟨hx, hb, hml, hown, hts⟩ (m_add l D h0 ad cs (upd (upd (upd (upd iv 21 (nI 0)) 22 p22_99) 25 (nI k25_100)) 30 (nI ((n30 + 1) + 1))) (uF fv 19 f19_124) gv n14 ((n30 + 1) + 1) (nI c_76) H.size h14 rfl (by omega) (by omega)) (cwV 1 hts gX9_test__X9_add rfl rfl rfl (by decide +kernel) ⟨Nat.le_of_ble_eq_true rfl, Nat.le_of_ble_eq_true rfl⟩) ⟨fun a U g mk q => by obtain ⟨q0, q1, qP, qK, qD⟩ := q; exact ⟨q0, q1, qP, va_K.moved (u := U) (U := U.calling g mk a) (Vm.Alike.refl U.vm) qK, qD⟩, va_recv hK hP (ci := 9) (q0 := 0) rfl rfl, fun U hU hW => ⟨rfl, by rw [hU], by rw [hU]; exact hP, va_K.moved hW.alike hK, hD.weaken (fun _ _ _ _ => trivial)⟩⟩ rfl rfl hl.1 rfl (lv_room (Nat.le_of_ble_eq_true rfl)) dX9_test__161 ⟨Nat.le_of_ble_eq_true rfl, Nat.le_of_ble_eq_true rfl⟩) hS (fun q _ h => hFc q h) hFc (fun u t H1 locs ht hvm w_127 hB hz1 hk1 hS => ?_)
              obtain ⟨f19_128, q_129, hP1, hK1, hD1⟩ := hB
              replace q_129 : f19_128 = upd ((f19_124)) (200 * n14 + ((n30 + 1) + 1)) (nI c_76) := q_129
              rw [ht] at hP1
              have hK := va_K.moved hvm.symm hK1
              generalize H1 = H at hP1 hS ⊢
              have hP : va_P D vwCl (mw h0 ad cs (upd (upd (upd (upd iv 21 (nI 0)) 22 p22_99) 25 (nI k25_100)) 30 (nI (((n30 + 1) + 1) + 1))) (uF fv 19 f19_128) gv) H := hP1
              have hD : va_D A (mw h0 ad cs (upd (upd (upd (upd iv 21 (nI 0)) 22 p22_99) 25 (nI k25_100)) 30 (nI (((n30 + 1) + 1) + 1))) (uF fv 19 f19_128) gv) := hD1.weaken (fun _ _ _ h => hFc _ h)
              refine lv_aload_n hx hb dX9_test__164 rfl (lv_at hl 4 rfl) ?_
              refine lv_iload hx hb dX9_test__165 (lv_at hl 0 rfl) ?_
              have hFc := free_all hD hS hA
              refine va_callv (va_runV (As := [.int (nI v_110)]) (rest := []) ⟨hx, hb, hml, hown, hts⟩ (m_add l D h0 ad cs (upd (upd (upd (upd iv 21 (nI 0)) 22 p22_99) 25 (nI k25_100)) 30 (nI (((n30 + 1) + 1) + 1))) (uF fv 19 f19_128) gv n14 (((n30 + 1) + 1) + 1) (nI v_110) H.size h14 rfl (by omega) (by omega)) (cwV 1 hts gX9_test__X9_add rfl rfl rfl (by decide +kernel) ⟨Nat.le_of_ble_eq_true rfl, Nat.le_of_ble_eq_true rfl⟩) ⟨fun a U g mk q => by obtain ⟨q0, q1, qP, qK, qD⟩ := q; exact ⟨q0, q1, qP, va_K.moved (u := U) (U := U.calling g mk a) (Vm.Alike.refl U.vm) qK, qD⟩, va_recv hK hP (ci := 9) (q0 := 0) rfl rfl, fun U hU hW => ⟨rfl, by rw [hU], by rw [hU]; exact hP, va_K.moved hW.alike hK, hD.weaken (fun _ _ _ _ => trivial)⟩⟩ rfl rfl hl.1 rfl (lv_room (Nat.le_of_ble_eq_true rfl)) dX9_test__167 ⟨Nat.le_of_ble_eq_true rfl, Nat.le_of_ble_eq_true rfl⟩) hS (fun q _ h => hFc q h) hFc (fun u t H1 locs ht hvm w_131 hB hz1 hk1 hS => ?_)
              obtain ⟨f19_132, q_133, hP1, hK1, hD1⟩ := hB
              replace q_133 : f19_132 = upd ((f19_128)) (200 * n14 + (((n30 + 1) + 1) + 1)) (nI v_110) := q_133
              rw [ht] at hP1
              have hK := va_K.moved hvm.symm hK1
              generalize H1 = H at hP1 hS ⊢
              have hP : va_P D vwCl (mw h0 ad cs (upd (upd (upd (upd iv 21 (nI 0)) 22 p22_99) 25 (nI k25_100)) 30 (nI ((((n30 + 1) + 1) + 1) + 1))) (uF fv 19 f19_132) gv) H := hP1
              have hD : va_D A (mw h0 ad cs (upd (upd (upd (upd iv 21 (nI 0)) 22 p22_99) 25 (nI k25_100)) 30 (nI ((((n30 + 1) + 1) + 1) + 1))) (uF fv 19 f19_132) gv) := hD1.weaken (fun _ _ _ h => hFc _ h)
              have hP : va_P D vwCl (mw h0 ad cs (upd (upd (upd (upd iv 21 (nI 0)) 22 p22_99) 25 (nI k25_100)) 30 (nI ((((n30 + 1) + 1) + 1) + 1))) (uF fv 19 f19_132) gv) H := hP
              have hD : va_D A (mw h0 ad cs (upd (upd (upd (upd iv 21 (nI 0)) 22 p22_99) 25 (nI k25_100)) 30 (nI ((((n30 + 1) + 1) + 1) + 1))) (uF fv 19 f19_132) gv) := hD
              exact W.vret hx hb hr (fun t ht hW => ⟨⟨(), rfl, trivial, 0, p22_99, k25_100, (((n30 + 1) + 1) + 1) + 1, f19_132, by omega, by omega, by omega, Or.inr ⟨by omega, by omega, by omega, fun i h9 => by rw [q_133, up_ne (by omega), q_129, up_ne (by omega), q_125, up_ne (by omega), q_121, up_ne (by omega)], by rw [q_133, up_ne (by omega), q_129, up_ne (by omega), q_125, up_ne (by omega), q_121, up_eq], by rw [q_133, up_ne (by omega), q_129, up_ne (by omega), q_125, up_eq]; exact ⟨30 + v_60, by omega, rfl⟩⟩, (by rw [show skB (fv 0) n26 n25 = k25_3 from q_8.eq]; have h6 : skB (fv 0) n26 e_36 = nxF (fv 0) n26 k25_3 := (by rw [nxF, teF_1 (wdE_sp (by omega) hw_13).2, he_11.r, hq_e_36]); have h5 : skB (fv 0) n26 k25_50 = k25_70 := q_75.eq; have h4 : skB (fv 0) n26 e_94 = nxF (fv 0) n26 k25_70 := (by rw [nxF, teF_1 (wdE_sp (by omega) hw_80).2, he_78.r, hq_e_94]); exact ⟨skB (fv 0) n26 k25_100, 30 + v_60, c_76, v_110, Or.inr ⟨k25_70, by rw [← h5]; exact (Or.inr (Or.inr (Or.inr (⟨hwc, v_60, by rw [← h6]; exact hnr_64, rfl⟩))) : whtR (fv 0) n26 k25_3 0 (skB (fv 0) n26 k25_50) (30 + v_60)), Or.inr ⟨by omega, by omega, by rw [← h4]; exact hnr_114⟩⟩, fun _ => rfl, fun h9 => by omega⟩), fun _ => (pe_116.trans pe_66), by rw [ht]; exact hP, va_K.moved hW.alike hK, hD⟩, hS.F ht⟩) hS.2.2 dX9_test__170
            have d_134 := n_ne (a := c_76) (b := 9) (by omega) (by omega) c_90
            refine lv_iload_n hx hb dX9_test__107 rfl (lv_at hl 0 rfl) ?_
            refine lv_bipush (v := 10) hx hb dX9_test__108 (by decide) ?_
            refine lv_icmp_eq (tgt := 123) hx hb dX9_test__110 (by decide) (fun c_135 => ?_) (fun c_135 => ?_)
            · have d_136 := n_eq (a := c_76) (b := 10) (by omega) (by omega) c_135
              refine lv_aload_n hx hb dX9_test__123 rfl (lv_at hl 3 rfl) ?_
              refine lv_aload_n hx hb dX9_test__124 rfl (lv_at hl 3 rfl) ?_
              refine vp_callSi (W.runV (As := []) (rest := [.ref h0]) ⟨hx, hb, hml, hown, hts⟩ (m_wordEnd l D h0 ad cs (upd (upd (upd iv 21 (nI 0)) 22 p22_49) 25 (nI k25_70)) fv gv k25_70 n26  rfl h26 (by omega) (by omega)) (cwV 0 hts gX9_test__X9_wordEnd rfl rfl rfl (by decide +kernel) ⟨Nat.le_of_ble_eq_true rfl, Nat.le_of_ble_eq_true rfl⟩) ⟨fun a U g mk q => ⟨q.1, q.2.1, va_K.moved (u := U) (U := U.calling g mk a) (Vm.Alike.refl U.vm) q.2.2⟩, va_recv hK hP (ci := 9) (q0 := 0) rfl rfl, fun U hU hW => ⟨rfl, by rw [hU]; exact hP, va_K.moved hW.alike hK⟩⟩ rfl rfl hl.1 rfl (lv_room (Nat.le_of_ble_eq_true rfl)) dX9_test__125 ⟨Nat.le_of_ble_eq_true rfl, Nat.le_of_ble_eq_true rfl⟩) (fun r_137 k_138 => ?_)
              obtain ⟨e_139, rfl, he_140⟩ := k_138
              have hq_e_139 : e_139 = e_77 := he_140.uq he_78
              refine va_put (D := D) (ci := 9) (v := .int (nI e_139)) (ty := .int) (C := RX9) (T := TX9) (N := 44) hx hb hts hin9 tyX9 tyX9_ok nmX9 hown hK hP hD hS 0 rfl rfl 25 (by decide) (hts (.fieldLink RX9 87 "HoneyHouseModel" "at" "I") (List.mem_of_getElem? (i := 1) rfl)) (fun _ h9 => h9) rfl (tyX9_ok 25 (by decide)) rfl rfl (Nat.le_of_ble_eq_true rfl) dX9_test__128 (fun H locs hP hD hS => ?_)
              have hP : va_P D vwCl (mw h0 ad cs (upd (upd (upd iv 21 (nI 0)) 22 p22_49) 25 (nI e_139)) fv gv) H := hP
              have hD : va_D A (mw h0 ad cs (upd (upd (upd iv 21 (nI 0)) 22 p22_49) 25 (nI e_139)) fv gv) := hD
              refine lv_aload_n hx hb dX9_test__131 rfl (lv_at hl 3 rfl) ?_
              refine lv_sipush (v := 1000) hx hb dX9_test__132 (by decide) ?_
              have hFc := free_all hD hS hA
              refine va_calli (va_runV (As := [.int 1000]) (rest := []) ⟨hx, hb, hml, hown, hts⟩ (m_number l D h0 ad cs (upd (upd (upd iv 21 (nI 0)) 22 p22_49) 25 (nI e_139)) fv gv 0 e_139 n26 1000 H.size rfl rfl h26 (by omega) (by omega) (by omega) (by omega)) (cwV 1 hts gX9_test__X9_number rfl rfl rfl (by decide +kernel) ⟨Nat.le_of_ble_eq_true rfl, Nat.le_of_ble_eq_true rfl⟩) ⟨fun a U g mk q => by obtain ⟨q0, q1, qP, qK, qD⟩ := q; exact ⟨q0, q1, qP, va_K.moved (u := U) (U := U.calling g mk a) (Vm.Alike.refl U.vm) qK, qD⟩, va_recv hK hP (ci := 9) (q0 := 0) rfl rfl, fun U hU hW => ⟨rfl, by rw [hU], by rw [hU]; exact hP, va_K.moved hW.alike hK, hD.weaken (fun _ _ _ _ => trivial)⟩⟩ rfl rfl hl.1 rfl (lv_room (Nat.le_of_ble_eq_true rfl)) dX9_test__135 ⟨Nat.le_of_ble_eq_true rfl, Nat.le_of_ble_eq_true rfl⟩) hS (fun q _ h => hFc q h) hFc (fun r_141 u t H1 locs ht hvm w_142 hB hz1 hk1 hS => ?_)
              subst w_142
              obtain ⟨k21_143, p22_144, k25_145, q_146, q_147, q_148, q_149, q_150, q_151, hP1, hK1, hD1⟩ := hB
              replace q_150 : NUX ((fv 0)) n26 1000 (skB ((fv 0)) n26 e_139) k21_143 p22_144 k25_145 r_141 := q_150
              replace q_151 : k21_143 = 0 → p22_144 = (p22_49) := q_151
              rw [ht] at hP1
              have hK := va_K.moved hvm.symm hK1
              generalize H1 = H at hP1 hS ⊢
              have hP : va_P D vwCl (mw h0 ad cs (upd (upd (upd iv 21 (nI k21_143)) 22 p22_144) 25 (nI k25_145)) fv gv) H := hP1
              have hD : va_D A (mw h0 ad cs (upd (upd (upd iv 21 (nI k21_143)) 22 p22_144) 25 (nI k25_145)) fv gv) := hD1.weaken (fun _ _ _ h => hFc _ h)
              rcases q_149 with hp_152 | ⟨rfl, hg_154⟩
              · obtain ⟨P_157, hP_158, hnr_159⟩ := q_150.no (by omega)
                refine lv_istore (lv' := [(4, .int r_141), (3, .int (nI c_76)), (2, .int (nI (30 + v_60))), (1, .int (nI c_9)), (0, .ref h0)]) hx hb dX9_test__138 hl (by decide) rfl (fun ls hl => ?_)
                refine lv_aload_n hx hb dX9_test__140 rfl (lv_at hl 4 rfl) ?_
                refine va_get (D := D) (ci := 9) (v := .int (nI k21_143)) (C := RX9) (T := TX9) (N := 44) hx hb hts hin9 hown hK hP 0 rfl rfl 21 (by decide) (hts (.fieldLink RX9 74 "HoneyHouseModel" "faultKind" "I") (List.mem_of_getElem? (i := 2) rfl)) (fun _ h9 => h9) rfl dX9_test__141 ?_
                refine lv_if_le (tgt := 148) hx hb dX9_test__144 (by decide) (fun c_160 => absurd c_160 (nI_nle (n := k21_143) (by omega) (by omega))) (fun c_160 => ?_)
                have hP : va_P D vwCl (mw h0 ad cs (upd (upd (upd (upd iv 21 (nI k21_143)) 22 p22_144) 25 (nI k25_145)) 30 (iv 30)) (uF fv 19 (fv 19)) gv) H := hP
                have hD : va_D A (mw h0 ad cs (upd (upd (upd (upd iv 21 (nI k21_143)) 22 p22_144) 25 (nI k25_145)) 30 (iv 30)) (uF fv 19 (fv 19)) gv) := hD
                have hP := hP
                rw [h30] at hP hD
                exact W.vret hx hb hr (fun t ht hW => ⟨⟨(), rfl, trivial, k21_143, p22_144, k25_145, n30, fv 19, by omega, by omega, by omega, Or.inl ⟨by omega, by omega, rfl⟩, (by rw [show skB (fv 0) n26 n25 = k25_3 from q_8.eq]; have h6 : skB (fv 0) n26 e_36 = nxF (fv 0) n26 k25_3 := (by rw [nxF, teF_1 (wdE_sp (by omega) hw_13).2, he_11.r, hq_e_36]); have h5 : skB (fv 0) n26 k25_50 = k25_70 := q_75.eq; have h4 : skB (fv 0) n26 e_139 = nxF (fv 0) n26 k25_70 := (by rw [nxF, teF_1 (wdE_sp (by omega) hw_80).2, he_78.r, hq_e_139]); exact ⟨P_157, 30 + v_60, c_76, 0, Or.inr ⟨k25_70, by rw [← h5]; exact (Or.inr (Or.inr (Or.inr (⟨hwc, v_60, by rw [← h6]; exact hnr_64, rfl⟩))) : whtR (fv 0) n26 k25_3 0 (skB (fv 0) n26 k25_50) (30 + v_60)), Or.inr ⟨by omega, by omega, by rw [← h4]; exact hnr_159⟩⟩, fun h9 => by omega, fun _ => hP_158⟩), fun h9 => absurd h9 (by omega), by rw [ht]; exact hP, va_K.moved hW.alike hK, hD⟩, hS.F ht⟩) hS.2.2 dX9_test__147
              obtain ⟨v_155, hv_156, rfl, hnr_159⟩ := q_150.ok
              have pe_161 : p22_144 = p22_49 := q_151 rfl
              refine lv_istore (lv' := [(4, .int (nI v_155)), (3, .int (nI c_76)), (2, .int (nI (30 + v_60))), (1, .int (nI c_9)), (0, .ref h0)]) hx hb dX9_test__138 hl (by decide) rfl (fun ls hl => ?_)
              refine lv_aload_n hx hb dX9_test__140 rfl (lv_at hl 4 rfl) ?_
              refine va_get (D := D) (ci := 9) (v := .int (nI 0)) (C := RX9) (T := TX9) (N := 44) hx hb hts hin9 hown hK hP 0 rfl rfl 21 (by decide) (hts (.fieldLink RX9 74 "HoneyHouseModel" "faultKind" "I") (List.mem_of_getElem? (i := 2) rfl)) (fun _ h9 => h9) rfl dX9_test__141 ?_
              refine lv_if_le (tgt := 148) hx hb dX9_test__144 (by decide) (fun c_162 => ?_) (fun c_162 => absurd (by decide) c_162)
              refine lv_aload_n hx hb dX9_test__148 rfl (lv_at hl 4 rfl) ?_
              refine lv_bipush (v := 13) hx hb dX9_test__149 (by decide) ?_
              have hFc := free_all hD hS hA
              refine va_callv (va_runV (As := [.int 13]) (rest := []) ⟨hx, hb, hml, hown, hts⟩ (m_add l D h0 ad cs (upd (upd (upd iv 21 (nI 0)) 22 p22_144) 25 (nI k25_145)) fv gv n14 n30 13 H.size h14 h30 (by omega) (by omega)) (cwV 1 hts gX9_test__X9_add rfl rfl rfl (by decide +kernel) ⟨Nat.le_of_ble_eq_true rfl, Nat.le_of_ble_eq_true rfl⟩) ⟨fun a U g mk q => by obtain ⟨q0, q1, qP, qK, qD⟩ := q; exact ⟨q0, q1, qP, va_K.moved (u := U) (U := U.calling g mk a) (Vm.Alike.refl U.vm) qK, qD⟩, va_recv hK hP (ci := 9) (q0 := 0) rfl rfl, fun U hU hW => ⟨rfl, by rw [hU], by rw [hU]; exact hP, va_K.moved hW.alike hK, hD.weaken (fun _ _ _ _ => trivial)⟩⟩ rfl rfl hl.1 rfl (lv_room (Nat.le_of_ble_eq_true rfl)) dX9_test__151 ⟨Nat.le_of_ble_eq_true rfl, Nat.le_of_ble_eq_true rfl⟩) hS (fun q _ h => hFc q h) hFc (fun u t H1 locs ht hvm w_164 hB hz1 hk1 hS => ?_)
              obtain ⟨f19_165, q_166, hP1, hK1, hD1⟩ := hB
              replace q_166 : f19_165 = upd ((fv 19)) (200 * n14 + n30) 13 := q_166
              rw [ht] at hP1
              have hK := va_K.moved hvm.symm hK1
              generalize H1 = H at hP1 hS ⊢
              have hP : va_P D vwCl (mw h0 ad cs (upd (upd (upd (upd iv 21 (nI 0)) 22 p22_144) 25 (nI k25_145)) 30 (nI (n30 + 1))) (uF fv 19 f19_165) gv) H := hP1
              have hD : va_D A (mw h0 ad cs (upd (upd (upd (upd iv 21 (nI 0)) 22 p22_144) 25 (nI k25_145)) 30 (nI (n30 + 1))) (uF fv 19 f19_165) gv) := hD1.weaken (fun _ _ _ h => hFc _ h)
              refine lv_aload_n hx hb dX9_test__154 rfl (lv_at hl 4 rfl) ?_
              refine lv_iload_n hx hb dX9_test__155 rfl (lv_at hl 2 rfl) ?_
              have hFc := free_all hD hS hA
              refine va_callv (va_runV (As := [.int (nI (30 + v_60))]) (rest := []) ⟨hx, hb, hml, hown, hts⟩ (m_add l D h0 ad cs (upd (upd (upd (upd iv 21 (nI 0)) 22 p22_144) 25 (nI k25_145)) 30 (nI (n30 + 1))) (uF fv 19 f19_165) gv n14 (n30 + 1) (nI (30 + v_60)) H.size h14 rfl (by omega) (by omega)) (cwV 1 hts gX9_test__X9_add rfl rfl rfl (by decide +kernel) ⟨Nat.le_of_ble_eq_true rfl, Nat.le_of_ble_eq_true rfl⟩) ⟨fun a U g mk q => by obtain ⟨q0, q1, qP, qK, qD⟩ := q; exact ⟨q0, q1, qP, va_K.moved (u := U) (U := U.calling g mk a) (Vm.Alike.refl U.vm) qK, qD⟩, va_recv hK hP (ci := 9) (q0 := 0) rfl rfl, fun U hU hW => ⟨rfl, by rw [hU], by rw [hU]; exact hP, va_K.moved hW.alike hK, hD.weaken (fun _ _ _ _ => trivial)⟩⟩ rfl rfl hl.1 rfl (lv_room (Nat.le_of_ble_eq_true rfl)) dX9_test__156 ⟨Nat.le_of_ble_eq_true rfl, Nat.le_of_ble_eq_true rfl⟩) hS (fun q _ h => hFc q h) hFc (fun u t H1 locs ht hvm w_168 hB hz1 hk1 hS => ?_)
              obtain ⟨f19_169, q_170, hP1, hK1, hD1⟩ := hB
              replace q_170 : f19_169 = upd ((f19_165)) (200 * n14 + (n30 + 1)) (nI (30 + v_60)) := q_170
              rw [ht] at hP1
              have hK := va_K.moved hvm.symm hK1
              generalize H1 = H at hP1 hS ⊢
              have hP : va_P D vwCl (mw h0 ad cs (upd (upd (upd (upd iv 21 (nI 0)) 22 p22_144) 25 (nI k25_145)) 30 (nI ((n30 + 1) + 1))) (uF fv 19 f19_169) gv) H := hP1
              have hD : va_D A (mw h0 ad cs (upd (upd (upd (upd iv 21 (nI 0)) 22 p22_144) 25 (nI k25_145)) 30 (nI ((n30 + 1) + 1))) (uF fv 19 f19_169) gv) := hD1.weaken (fun _ _ _ h => hFc _ h)
              refine lv_aload_n hx hb dX9_test__159 rfl (lv_at hl 4 rfl) ?_
              refine lv_iload_n hx hb dX9_test__160 rfl (lv_at hl 1 rfl) ?_
              have hFc := free_all hD hS hA
              refine va_callv (va_runV (As := [.int (nI c_76)]) (rest := []) ⟨hx, hb, hml, hown, hts⟩ (m_add l D h0 ad cs (upd (upd (upd (upd iv 21 (nI 0)) 22 p22_144) 25 (nI k25_145)) 30 (nI ((n30 + 1) + 1))) (uF fv 19 f19_169) gv n14 ((n30 + 1) + 1) (nI c_76) H.size h14 rfl (by omega) (by omega)) (cwV 1 hts gX9_test__X9_add rfl rfl rfl (by decide +kernel) ⟨Nat.le_of_ble_eq_true rfl, Nat.le_of_ble_eq_true rfl⟩) ⟨fun a U g mk q => by obtain ⟨q0, q1, qP, qK, qD⟩ := q; exact ⟨q0, q1, qP, va_K.moved (u := U) (U := U.calling g mk a) (Vm.Alike.refl U.vm) qK, qD⟩, va_recv hK hP (ci := 9) (q0 := 0) rfl rfl, fun U hU hW => ⟨rfl, by rw [hU], by rw [hU]; exact hP, va_K.moved hW.alike hK, hD.weaken (fun _ _ _ _ => trivial)⟩⟩ rfl rfl hl.1 rfl (lv_room (Nat.le_of_ble_eq_true rfl)) dX9_test__161 ⟨Nat.le_of_ble_eq_true rfl, Nat.le_of_ble_eq_true rfl⟩) hS (fun q _ h => hFc q h) hFc (fun u t H1 locs ht hvm w_172 hB hz1 hk1 hS => ?_)
              obtain ⟨f19_173, q_174, hP1, hK1, hD1⟩ := hB
              replace q_174 : f19_173 = upd ((f19_169)) (200 * n14 + ((n30 + 1) + 1)) (nI c_76) := q_174
              rw [ht] at hP1
              have hK := va_K.moved hvm.symm hK1
              generalize H1 = H at hP1 hS ⊢
              have hP : va_P D vwCl (mw h0 ad cs (upd (upd (upd (upd iv 21 (nI 0)) 22 p22_144) 25 (nI k25_145)) 30 (nI (((n30 + 1) + 1) + 1))) (uF fv 19 f19_173) gv) H := hP1
              have hD : va_D A (mw h0 ad cs (upd (upd (upd (upd iv 21 (nI 0)) 22 p22_144) 25 (nI k25_145)) 30 (nI (((n30 + 1) + 1) + 1))) (uF fv 19 f19_173) gv) := hD1.weaken (fun _ _ _ h => hFc _ h)
              refine lv_aload_n hx hb dX9_test__164 rfl (lv_at hl 4 rfl) ?_
              refine lv_iload hx hb dX9_test__165 (lv_at hl 0 rfl) ?_
              have hFc := free_all hD hS hA
              refine va_callv (va_runV (As := [.int (nI v_155)]) (rest := []) ⟨hx, hb, hml, hown, hts⟩ (m_add l D h0 ad cs (upd (upd (upd (upd iv 21 (nI 0)) 22 p22_144) 25 (nI k25_145)) 30 (nI (((n30 + 1) + 1) + 1))) (uF fv 19 f19_173) gv n14 (((n30 + 1) + 1) + 1) (nI v_155) H.size h14 rfl (by omega) (by omega)) (cwV 1 hts gX9_test__X9_add rfl rfl rfl (by decide +kernel) ⟨Nat.le_of_ble_eq_true rfl, Nat.le_of_ble_eq_true rfl⟩) ⟨fun a U g mk q => by obtain ⟨q0, q1, qP, qK, qD⟩ := q; exact ⟨q0, q1, qP, va_K.moved (u := U) (U := U.calling g mk a) (Vm.Alike.refl U.vm) qK, qD⟩, va_recv hK hP (ci := 9) (q0 := 0) rfl rfl, fun U hU hW => ⟨rfl, by rw [hU], by rw [hU]; exact hP, va_K.moved hW.alike hK, hD.weaken (fun _ _ _ _ => trivial)⟩⟩ rfl rfl hl.1 rfl (lv_room (Nat.le_of_ble_eq_true rfl)) dX9_test__167 ⟨Nat.le_of_ble_eq_true rfl, Nat.le_of_ble_eq_true rfl⟩) hS (fun q _ h => hFc q h) hFc (fun u t H1 locs ht hvm w_176 hB hz1 hk1 hS => ?_)
              obtain ⟨f19_177, q_178, hP1, hK1, hD1⟩ := hB
              replace q_178 : f19_177 = upd ((f19_173)) (200 * n14 + (((n30 + 1) + 1) + 1)) (nI v_155) := q_178
              rw [ht] at hP1
              have hK := va_K.moved hvm.symm hK1
              generalize H1 = H at hP1 hS ⊢
              have hP : va_P D vwCl (mw h0 ad cs (upd (upd (upd (upd iv 21 (nI 0)) 22 p22_144) 25 (nI k25_145)) 30 (nI ((((n30 + 1) + 1) + 1) + 1))) (uF fv 19 f19_177) gv) H := hP1
              have hD : va_D A (mw h0 ad cs (upd (upd (upd (upd iv 21 (nI 0)) 22 p22_144) 25 (nI k25_145)) 30 (nI ((((n30 + 1) + 1) + 1) + 1))) (uF fv 19 f19_177) gv) := hD1.weaken (fun _ _ _ h => hFc _ h)
              have hP : va_P D vwCl (mw h0 ad cs (upd (upd (upd (upd iv 21 (nI 0)) 22 p22_144) 25 (nI k25_145)) 30 (nI ((((n30 + 1) + 1) + 1) + 1))) (uF fv 19 f19_177) gv) H := hP
              have hD : va_D A (mw h0 ad cs (upd (upd (upd (upd iv 21 (nI 0)) 22 p22_144) 25 (nI k25_145)) 30 (nI ((((n30 + 1) + 1) + 1) + 1))) (uF fv 19 f19_177) gv) := hD
              exact W.vret hx hb hr (fun t ht hW => ⟨⟨(), rfl, trivial, 0, p22_144, k25_145, (((n30 + 1) + 1) + 1) + 1, f19_177, by omega, by omega, by omega, Or.inr ⟨by omega, by omega, by omega, fun i h9 => by rw [q_178, up_ne (by omega), q_174, up_ne (by omega), q_170, up_ne (by omega), q_166, up_ne (by omega)], by rw [q_178, up_ne (by omega), q_174, up_ne (by omega), q_170, up_ne (by omega), q_166, up_eq], by rw [q_178, up_ne (by omega), q_174, up_ne (by omega), q_170, up_eq]; exact ⟨30 + v_60, by omega, rfl⟩⟩, (by rw [show skB (fv 0) n26 n25 = k25_3 from q_8.eq]; have h6 : skB (fv 0) n26 e_36 = nxF (fv 0) n26 k25_3 := (by rw [nxF, teF_1 (wdE_sp (by omega) hw_13).2, he_11.r, hq_e_36]); have h5 : skB (fv 0) n26 k25_50 = k25_70 := q_75.eq; have h4 : skB (fv 0) n26 e_139 = nxF (fv 0) n26 k25_70 := (by rw [nxF, teF_1 (wdE_sp (by omega) hw_80).2, he_78.r, hq_e_139]); exact ⟨skB (fv 0) n26 k25_145, 30 + v_60, c_76, v_155, Or.inr ⟨k25_70, by rw [← h5]; exact (Or.inr (Or.inr (Or.inr (⟨hwc, v_60, by rw [← h6]; exact hnr_64, rfl⟩))) : whtR (fv 0) n26 k25_3 0 (skB (fv 0) n26 k25_50) (30 + v_60)), Or.inr ⟨by omega, by omega, by rw [← h4]; exact hnr_159⟩⟩, fun _ => rfl, fun h9 => by omega⟩), fun _ => (pe_161.trans pe_66), by rw [ht]; exact hP, va_K.moved hW.alike hK, hD⟩, hS.F ht⟩) hS.2.2 dX9_test__170
            have d_179 := n_ne (a := c_76) (b := 10) (by omega) (by omega) c_135
            refine lv_aload_n hx hb dX9_test__113 rfl (lv_at hl 3 rfl) ?_
            refine lv_iconst (v := 1) hx hb dX9_test__114 (by decide) ?_
            refine lv_aload_n hx hb dX9_test__115 rfl (lv_at hl 3 rfl) ?_
            refine va_get (D := D) (ci := 9) (v := .int (nI k25_70)) (C := RX9) (T := TX9) (N := 44) hx hb hts hin9 hown hK hP 0 rfl rfl 25 (by decide) (hts (.fieldLink RX9 87 "HoneyHouseModel" "at" "I") (List.mem_of_getElem? (i := 1) rfl)) (fun _ h9 => h9) rfl dX9_test__116 ?_
            have hFc := free_all hD hS hA
            refine va_callv (va_runV (As := [.int 1, .int (nI k25_70)]) (rest := []) ⟨hx, hb, hml, hown, hts⟩ (m_blame l D h0 ad cs (upd (upd (upd iv 21 (nI 0)) 22 p22_49) 25 (nI k25_70)) fv gv 0 1 (nI k25_70) H.size rfl (by omega) (by omega)) (cwV 2 hts gX9_test__X9_blame rfl rfl rfl (by decide +kernel) ⟨Nat.le_of_ble_eq_true rfl, Nat.le_of_ble_eq_true rfl⟩) ⟨fun a U g mk q => by obtain ⟨q0, q1, qP, qK, qD⟩ := q; exact ⟨q0, q1, qP, va_K.moved (u := U) (U := U.calling g mk a) (Vm.Alike.refl U.vm) qK, qD⟩, va_recv hK hP (ci := 9) (q0 := 0) rfl rfl, fun U hU hW => ⟨rfl, by rw [hU], by rw [hU]; exact hP, va_K.moved hW.alike hK, hD.weaken (fun _ _ _ _ => trivial)⟩⟩ rfl rfl hl.1 rfl (lv_room (Nat.le_of_ble_eq_true rfl)) dX9_test__119 ⟨Nat.le_of_ble_eq_true rfl, Nat.le_of_ble_eq_true rfl⟩) hS (fun q _ h => hFc q h) hFc (fun u t H1 locs ht hvm w_181 hB hz1 hk1 hS => ?_)
            obtain ⟨k21_182, p22_183, q_184, q_185, q_186, hP1, hK1, hD1⟩ := hB
            replace q_186 : (0 = 0 → k21_182 = 1 ∧ p22_183 = (nI k25_70)) ∧ (¬ 0 = 0 → k21_182 = 0 ∧ p22_183 = (p22_49)) := q_186
            rw [ht] at hP1
            have hK := va_K.moved hvm.symm hK1
            generalize H1 = H at hP1 hS ⊢
            have hP : va_P D vwCl (mw h0 ad cs (upd (upd (upd iv 21 (nI k21_182)) 22 p22_183) 25 (nI k25_70)) fv gv) H := hP1
            have hD : va_D A (mw h0 ad cs (upd (upd (upd iv 21 (nI k21_182)) 22 p22_183) 25 (nI k25_70)) fv gv) := hD1.weaken (fun _ _ _ h => hFc _ h)
            have hP : va_P D vwCl (mw h0 ad cs (upd (upd (upd (upd iv 21 (nI k21_182)) 22 p22_183) 25 (nI k25_70)) 30 (iv 30)) (uF fv 19 (fv 19)) gv) H := hP
            have hD : va_D A (mw h0 ad cs (upd (upd (upd (upd iv 21 (nI k21_182)) 22 p22_183) 25 (nI k25_70)) 30 (iv 30)) (uF fv 19 (fv 19)) gv) := hD
            have hP := hP
            rw [h30] at hP hD
            exact W.vret hx hb hr (fun t ht hW => ⟨⟨(), rfl, trivial, k21_182, p22_183, k25_70, n30, fv 19, by omega, by omega, by omega, Or.inl ⟨by omega, by omega, rfl⟩, (by rw [show skB (fv 0) n26 n25 = k25_3 from q_8.eq]; have h6 : skB (fv 0) n26 e_36 = nxF (fv 0) n26 k25_3 := (by rw [nxF, teF_1 (wdE_sp (by omega) hw_13).2, he_11.r, hq_e_36]); have h5 : skB (fv 0) n26 k25_50 = k25_70 := q_75.eq; exact ⟨k25_70, 30 + v_60, 0, 0, Or.inr ⟨k25_70, by rw [← h5]; exact (Or.inr (Or.inr (Or.inr (⟨hwc, v_60, by rw [← h6]; exact hnr_64, rfl⟩))) : whtR (fv 0) n26 k25_3 0 (skB (fv 0) n26 k25_50) (30 + v_60)), Or.inl ⟨by omega, (q_186.1 (by omega)).1, rfl⟩⟩, fun h9 => by omega, fun _ => (q_186.1 (by omega)).2⟩), fun h9 => absurd h9 (by omega), by rw [ht]; exact hP, va_K.moved hW.alike hK, hD⟩, hS.F ht⟩) hS.2.2 dX9_test__122
          have d_187 := n_eq (a := c_9) (b := 7) (by omega) (by omega) c_44
          have hwc : wdE (fv 0) n26 k25_3 = 7 := by omega
          refine lv_bipush (v := 10) hx hb dX9_test__68 (by decide) ?_
          refine lv_aload_n hx hb dX9_test__70 rfl (lv_at hl 1 rfl) ?_
          refine lv_iconst (v := 4) hx hb dX9_test__71 (by decide) ?_
          have hFc := free_all hD hS hA
          refine va_calli (va_runV (As := [.int 4]) (rest := [.int 10]) ⟨hx, hb, hml, hown, hts⟩ (m_number l D h0 ad cs (upd iv 25 (nI e_36)) fv gv n21 e_36 n26 4 H.size h21 rfl h26 (by omega) (by omega) (by omega) (by omega)) (cwV 1 hts gX9_test__X9_number rfl rfl rfl (by decide +kernel) ⟨Nat.le_of_ble_eq_true rfl, Nat.le_of_ble_eq_true rfl⟩) ⟨fun a U g mk q => by obtain ⟨q0, q1, qP, qK, qD⟩ := q; exact ⟨q0, q1, qP, va_K.moved (u := U) (U := U.calling g mk a) (Vm.Alike.refl U.vm) qK, qD⟩, va_recv hK hP (ci := 9) (q0 := 0) rfl rfl, fun U hU hW => ⟨rfl, by rw [hU], by rw [hU]; exact hP, va_K.moved hW.alike hK, hD.weaken (fun _ _ _ _ => trivial)⟩⟩ rfl rfl hl.1 rfl (lv_room (Nat.le_of_ble_eq_true rfl)) dX9_test__72 ⟨Nat.le_of_ble_eq_true rfl, Nat.le_of_ble_eq_true rfl⟩) hS (fun q _ h => hFc q h) hFc (fun r_188 u t H1 locs ht hvm w_189 hB hz1 hk1 hS => ?_)
          subst w_189
          obtain ⟨k21_190, p22_191, k25_192, q_193, q_194, q_195, q_196, q_197, q_198, hP1, hK1, hD1⟩ := hB
          replace q_197 : NUX ((fv 0)) n26 4 (skB ((fv 0)) n26 e_36) k21_190 p22_191 k25_192 r_188 := q_197
          replace q_198 : k21_190 = 0 → p22_191 = (iv 22) := q_198
          rw [ht] at hP1
          have hK := va_K.moved hvm.symm hK1
          generalize H1 = H at hP1 hS ⊢
          have hP : va_P D vwCl (mw h0 ad cs (upd (upd (upd iv 21 (nI k21_190)) 22 p22_191) 25 (nI k25_192)) fv gv) H := hP1
          have hD : va_D A (mw h0 ad cs (upd (upd (upd iv 21 (nI k21_190)) 22 p22_191) 25 (nI k25_192)) fv gv) := hD1.weaken (fun _ _ _ h => hFc _ h)
          rcases q_196 with hp_199 | ⟨rfl, hg_201⟩
          · obtain ⟨P_204, hP_205, hnr_206⟩ := q_197.no (by omega)
            refine lv_iadd hx hb dX9_test__75 ?_
            refine lv_goto (tgt := 87) hx hb dX9_test__76 (by decide) ?_
            refine lv_istore_n (lv' := [(2, .int (10 + r_188)), (1, .int (nI c_9)), (0, .ref h0)]) hx hb dX9_test__87 rfl hl (by decide) rfl (fun ls hl => ?_)
            refine lv_aload_n hx hb dX9_test__88 rfl (lv_at hl 2 rfl) ?_
            refine va_get (D := D) (ci := 9) (v := .int (nI k21_190)) (C := RX9) (T := TX9) (N := 44) hx hb hts hin9 hown hK hP 0 rfl rfl 21 (by decide) (hts (.fieldLink RX9 74 "HoneyHouseModel" "faultKind" "I") (List.mem_of_getElem? (i := 2) rfl)) (fun _ h9 => h9) rfl dX9_test__89 ?_
            refine lv_if_le (tgt := 96) hx hb dX9_test__92 (by decide) (fun c_207 => absurd c_207 (nI_nle (n := k21_190) (by omega) (by omega))) (fun c_207 => ?_)
            have hP : va_P D vwCl (mw h0 ad cs (upd (upd (upd (upd iv 21 (nI k21_190)) 22 p22_191) 25 (nI k25_192)) 30 (iv 30)) (uF fv 19 (fv 19)) gv) H := hP
            have hD : va_D A (mw h0 ad cs (upd (upd (upd (upd iv 21 (nI k21_190)) 22 p22_191) 25 (nI k25_192)) 30 (iv 30)) (uF fv 19 (fv 19)) gv) := hD
            have hP := hP
            rw [h30] at hP hD
            exact W.vret hx hb hr (fun t ht hW => ⟨⟨(), rfl, trivial, k21_190, p22_191, k25_192, n30, fv 19, by omega, by omega, by omega, Or.inl ⟨by omega, by omega, rfl⟩, (by rw [show skB (fv 0) n26 n25 = k25_3 from q_8.eq]; have h6 : skB (fv 0) n26 e_36 = nxF (fv 0) n26 k25_3 := (by rw [nxF, teF_1 (wdE_sp (by omega) hw_13).2, he_11.r, hq_e_36]); exact ⟨P_204, 0, 0, 0, Or.inl ⟨_, (Or.inr (Or.inr (Or.inl (⟨hwc, 0, by rw [← h6]; exact hnr_206, rfl⟩))) : whtR (fv 0) n26 k25_3 k21_190 (P_204) (10 + 0)), by omega⟩, fun h9 => by omega, fun _ => hP_205⟩), fun h9 => absurd h9 (by omega), by rw [ht]; exact hP, va_K.moved hW.alike hK, hD⟩, hS.F ht⟩) hS.2.2 dX9_test__95
          obtain ⟨v_202, hv_203, rfl, hnr_206⟩ := q_197.ok
          have pe_208 : p22_191 = iv 22 := q_198 rfl
          refine lv_iadd hx hb dX9_test__75 ?_
          refine tp_i (y := nI (10 + v_202)) (nI_add 10 v_202) ?_
          refine lv_goto (tgt := 87) hx hb dX9_test__76 (by decide) ?_
          refine lv_istore_n (lv' := [(2, .int (nI (10 + v_202))), (1, .int (nI c_9)), (0, .ref h0)]) hx hb dX9_test__87 rfl hl (by decide) rfl (fun ls hl => ?_)
          refine lv_aload_n hx hb dX9_test__88 rfl (lv_at hl 2 rfl) ?_
          refine va_get (D := D) (ci := 9) (v := .int (nI 0)) (C := RX9) (T := TX9) (N := 44) hx hb hts hin9 hown hK hP 0 rfl rfl 21 (by decide) (hts (.fieldLink RX9 74 "HoneyHouseModel" "faultKind" "I") (List.mem_of_getElem? (i := 2) rfl)) (fun _ h9 => h9) rfl dX9_test__89 ?_
          refine lv_if_le (tgt := 96) hx hb dX9_test__92 (by decide) (fun c_209 => ?_) (fun c_209 => absurd (by decide) c_209)
          refine lv_aload_n hx hb dX9_test__96 rfl (lv_at hl 2 rfl) ?_
          have hFc := free_all hD hS hA
          refine va_calli (va_runV (As := []) (rest := []) ⟨hx, hb, hml, hown, hts⟩ (m_peek l D h0 ad cs (upd (upd (upd iv 21 (nI 0)) 22 p22_191) 25 (nI k25_192)) fv gv k25_192 n26  H.size rfl h26 (by omega) (by omega)) (cwV 0 hts gX9_test__X9_peek rfl rfl rfl (by decide +kernel) ⟨Nat.le_of_ble_eq_true rfl, Nat.le_of_ble_eq_true rfl⟩) ⟨fun a U g mk q => by obtain ⟨q0, q1, qP, qK, qD⟩ := q; exact ⟨q0, q1, qP, va_K.moved (u := U) (U := U.calling g mk a) (Vm.Alike.refl U.vm) qK, qD⟩, va_recv hK hP (ci := 9) (q0 := 0) rfl rfl, fun U hU hW => ⟨rfl, by rw [hU], by rw [hU]; exact hP, va_K.moved hW.alike hK, hD.weaken (fun _ _ _ _ => trivial)⟩⟩ rfl rfl hl.1 rfl (lv_room (Nat.le_of_ble_eq_true rfl)) dX9_test__97 ⟨Nat.le_of_ble_eq_true rfl, Nat.le_of_ble_eq_true rfl⟩) hS (fun q _ h => hFc q h) hFc (fun r_210 u t H1 locs ht hvm w_211 hB hz1 hk1 hS => ?_)
          subst w_211
          obtain ⟨k25_212, q_213, q_214, q_215, q_216, q_217, hP1, hK1, hD1⟩ := hB
          replace q_215 : (k25_192 = n26 ∨ ¬ blk ((fv 0) k25_192)) → k25_212 = k25_192 := q_215
          replace q_216 : PKD ((fv 0)) n26 k25_212 r_210 := q_216
          replace q_217 : isRn blk ((fv 0)) n26 k25_192 k25_212 := q_217
          rw [ht] at hP1
          have hK := va_K.moved hvm.symm hK1
          generalize H1 = H at hP1 hS ⊢
          have hP : va_P D vwCl (mw h0 ad cs (upd (upd (upd iv 21 (nI 0)) 22 p22_191) 25 (nI k25_212)) fv gv) H := hP1
          have hD : va_D A (mw h0 ad cs (upd (upd (upd iv 21 (nI 0)) 22 p22_191) 25 (nI k25_212)) fv gv) := hD1.weaken (fun _ _ _ h => hFc _ h)
          rcases q_216 with ⟨rfl, hw_222⟩ | ⟨c_218, e_219, rfl, he_220, hc_221, hw_222⟩
          · refine lv_istore_n (lv' := [(3, .int (-1)), (2, .int (nI (10 + v_202))), (1, .int (nI c_9)), (0, .ref h0)]) hx hb dX9_test__100 rfl hl (by decide) rfl (fun ls hl => ?_)
            refine lv_iload_n hx hb dX9_test__101 rfl (lv_at hl 0 rfl) ?_
            refine lv_bipush (v := 9) hx hb dX9_test__102 (by decide) ?_
            refine lv_icmp_eq (tgt := 123) hx hb dX9_test__104 (by decide) (fun c_223 => absurd c_223 (by decide)) (fun c_223 => ?_)
            refine lv_iload_n hx hb dX9_test__107 rfl (lv_at hl 0 rfl) ?_
            refine lv_bipush (v := 10) hx hb dX9_test__108 (by decide) ?_
            refine lv_icmp_eq (tgt := 123) hx hb dX9_test__110 (by decide) (fun c_224 => absurd c_224 (by decide)) (fun c_224 => ?_)
            refine lv_aload_n hx hb dX9_test__113 rfl (lv_at hl 3 rfl) ?_
            refine lv_iconst (v := 1) hx hb dX9_test__114 (by decide) ?_
            refine lv_aload_n hx hb dX9_test__115 rfl (lv_at hl 3 rfl) ?_
            refine va_get (D := D) (ci := 9) (v := .int (nI k25_212)) (C := RX9) (T := TX9) (N := 44) hx hb hts hin9 hown hK hP 0 rfl rfl 25 (by decide) (hts (.fieldLink RX9 87 "HoneyHouseModel" "at" "I") (List.mem_of_getElem? (i := 1) rfl)) (fun _ h9 => h9) rfl dX9_test__116 ?_
            have hFc := free_all hD hS hA
            refine va_callv (va_runV (As := [.int 1, .int (nI k25_212)]) (rest := []) ⟨hx, hb, hml, hown, hts⟩ (m_blame l D h0 ad cs (upd (upd (upd iv 21 (nI 0)) 22 p22_191) 25 (nI k25_212)) fv gv 0 1 (nI k25_212) H.size rfl (by omega) (by omega)) (cwV 2 hts gX9_test__X9_blame rfl rfl rfl (by decide +kernel) ⟨Nat.le_of_ble_eq_true rfl, Nat.le_of_ble_eq_true rfl⟩) ⟨fun a U g mk q => by obtain ⟨q0, q1, qP, qK, qD⟩ := q; exact ⟨q0, q1, qP, va_K.moved (u := U) (U := U.calling g mk a) (Vm.Alike.refl U.vm) qK, qD⟩, va_recv hK hP (ci := 9) (q0 := 0) rfl rfl, fun U hU hW => ⟨rfl, by rw [hU], by rw [hU]; exact hP, va_K.moved hW.alike hK, hD.weaken (fun _ _ _ _ => trivial)⟩⟩ rfl rfl hl.1 rfl (lv_room (Nat.le_of_ble_eq_true rfl)) dX9_test__119 ⟨Nat.le_of_ble_eq_true rfl, Nat.le_of_ble_eq_true rfl⟩) hS (fun q _ h => hFc q h) hFc (fun u t H1 locs ht hvm w_226 hB hz1 hk1 hS => ?_)
            obtain ⟨k21_227, p22_228, q_229, q_230, q_231, hP1, hK1, hD1⟩ := hB
            replace q_231 : (0 = 0 → k21_227 = 1 ∧ p22_228 = (nI k25_212)) ∧ (¬ 0 = 0 → k21_227 = 0 ∧ p22_228 = (p22_191)) := q_231
            rw [ht] at hP1
            have hK := va_K.moved hvm.symm hK1
            generalize H1 = H at hP1 hS ⊢
            have hP : va_P D vwCl (mw h0 ad cs (upd (upd (upd iv 21 (nI k21_227)) 22 p22_228) 25 (nI k25_212)) fv gv) H := hP1
            have hD : va_D A (mw h0 ad cs (upd (upd (upd iv 21 (nI k21_227)) 22 p22_228) 25 (nI k25_212)) fv gv) := hD1.weaken (fun _ _ _ h => hFc _ h)
            have hP : va_P D vwCl (mw h0 ad cs (upd (upd (upd (upd iv 21 (nI k21_227)) 22 p22_228) 25 (nI k25_212)) 30 (iv 30)) (uF fv 19 (fv 19)) gv) H := hP
            have hD : va_D A (mw h0 ad cs (upd (upd (upd (upd iv 21 (nI k21_227)) 22 p22_228) 25 (nI k25_212)) 30 (iv 30)) (uF fv 19 (fv 19)) gv) := hD
            have hP := hP
            rw [h30] at hP hD
            exact W.vret hx hb hr (fun t ht hW => ⟨⟨(), rfl, trivial, k21_227, p22_228, k25_212, n30, fv 19, by omega, by omega, by omega, Or.inl ⟨by omega, by omega, rfl⟩, (by rw [show skB (fv 0) n26 n25 = k25_3 from q_8.eq]; have h6 : skB (fv 0) n26 e_36 = nxF (fv 0) n26 k25_3 := (by rw [nxF, teF_1 (wdE_sp (by omega) hw_13).2, he_11.r, hq_e_36]); have h5 : skB (fv 0) n26 k25_192 = k25_212 := q_217.eq; exact ⟨k25_212, 10 + v_202, 0, 0, Or.inr ⟨k25_212, by rw [← h5]; exact (Or.inr (Or.inr (Or.inl (⟨hwc, v_202, by rw [← h6]; exact hnr_206, rfl⟩))) : whtR (fv 0) n26 k25_3 0 (skB (fv 0) n26 k25_192) (10 + v_202)), Or.inl ⟨by omega, (q_231.1 (by omega)).1, rfl⟩⟩, fun h9 => by omega, fun _ => (q_231.1 (by omega)).2⟩), fun h9 => absurd h9 (by omega), by rw [ht]; exact hP, va_K.moved hW.alike hK, hD⟩, hS.F ht⟩) hS.2.2 dX9_test__122
          have he_220b : k25_212 ≤ e_219 ∧ e_219 ≤ n26 := ⟨he_220.1, he_220.2.1⟩
          refine lv_istore_n (lv' := [(3, .int (nI c_218)), (2, .int (nI (10 + v_202))), (1, .int (nI c_9)), (0, .ref h0)]) hx hb dX9_test__100 rfl hl (by decide) rfl (fun ls hl => ?_)
          refine lv_iload_n hx hb dX9_test__101 rfl (lv_at hl 0 rfl) ?_
          refine lv_bipush (v := 9) hx hb dX9_test__102 (by decide) ?_
          refine lv_icmp_eq (tgt := 123) hx hb dX9_test__104 (by decide) (fun c_232 => ?_) (fun c_232 => ?_)
          · have d_233 := n_eq (a := c_218) (b := 9) (by omega) (by omega) c_232
            refine lv_aload_n hx hb dX9_test__123 rfl (lv_at hl 3 rfl) ?_
            refine lv_aload_n hx hb dX9_test__124 rfl (lv_at hl 3 rfl) ?_
            refine vp_callSi (W.runV (As := []) (rest := [.ref h0]) ⟨hx, hb, hml, hown, hts⟩ (m_wordEnd l D h0 ad cs (upd (upd (upd iv 21 (nI 0)) 22 p22_191) 25 (nI k25_212)) fv gv k25_212 n26  rfl h26 (by omega) (by omega)) (cwV 0 hts gX9_test__X9_wordEnd rfl rfl rfl (by decide +kernel) ⟨Nat.le_of_ble_eq_true rfl, Nat.le_of_ble_eq_true rfl⟩) ⟨fun a U g mk q => ⟨q.1, q.2.1, va_K.moved (u := U) (U := U.calling g mk a) (Vm.Alike.refl U.vm) q.2.2⟩, va_recv hK hP (ci := 9) (q0 := 0) rfl rfl, fun U hU hW => ⟨rfl, by rw [hU]; exact hP, va_K.moved hW.alike hK⟩⟩ rfl rfl hl.1 rfl (lv_room (Nat.le_of_ble_eq_true rfl)) dX9_test__125 ⟨Nat.le_of_ble_eq_true rfl, Nat.le_of_ble_eq_true rfl⟩) (fun r_234 k_235 => ?_)
            obtain ⟨e_236, rfl, he_237⟩ := k_235
            have hq_e_236 : e_236 = e_219 := he_237.uq he_220
            refine va_put (D := D) (ci := 9) (v := .int (nI e_236)) (ty := .int) (C := RX9) (T := TX9) (N := 44) hx hb hts hin9 tyX9 tyX9_ok nmX9 hown hK hP hD hS 0 rfl rfl 25 (by decide) (hts (.fieldLink RX9 87 "HoneyHouseModel" "at" "I") (List.mem_of_getElem? (i := 1) rfl)) (fun _ h9 => h9) rfl (tyX9_ok 25 (by decide)) rfl rfl (Nat.le_of_ble_eq_true rfl) dX9_test__128 (fun H locs hP hD hS => ?_)
            have hP : va_P D vwCl (mw h0 ad cs (upd (upd (upd iv 21 (nI 0)) 22 p22_191) 25 (nI e_236)) fv gv) H := hP
            have hD : va_D A (mw h0 ad cs (upd (upd (upd iv 21 (nI 0)) 22 p22_191) 25 (nI e_236)) fv gv) := hD
            refine lv_aload_n hx hb dX9_test__131 rfl (lv_at hl 3 rfl) ?_
            refine lv_sipush (v := 1000) hx hb dX9_test__132 (by decide) ?_
            have hFc := free_all hD hS hA
            refine va_calli (va_runV (As := [.int 1000]) (rest := []) ⟨hx, hb, hml, hown, hts⟩ (m_number l D h0 ad cs (upd (upd (upd iv 21 (nI 0)) 22 p22_191) 25 (nI e_236)) fv gv 0 e_236 n26 1000 H.size rfl rfl h26 (by omega) (by omega) (by omega) (by omega)) (cwV 1 hts gX9_test__X9_number rfl rfl rfl (by decide +kernel) ⟨Nat.le_of_ble_eq_true rfl, Nat.le_of_ble_eq_true rfl⟩) ⟨fun a U g mk q => by obtain ⟨q0, q1, qP, qK, qD⟩ := q; exact ⟨q0, q1, qP, va_K.moved (u := U) (U := U.calling g mk a) (Vm.Alike.refl U.vm) qK, qD⟩, va_recv hK hP (ci := 9) (q0 := 0) rfl rfl, fun U hU hW => ⟨rfl, by rw [hU], by rw [hU]; exact hP, va_K.moved hW.alike hK, hD.weaken (fun _ _ _ _ => trivial)⟩⟩ rfl rfl hl.1 rfl (lv_room (Nat.le_of_ble_eq_true rfl)) dX9_test__135 ⟨Nat.le_of_ble_eq_true rfl, Nat.le_of_ble_eq_true rfl⟩) hS (fun q _ h => hFc q h) hFc (fun r_238 u t H1 locs ht hvm w_239 hB hz1 hk1 hS => ?_)
            subst w_239
            obtain ⟨k21_240, p22_241, k25_242, q_243, q_244, q_245, q_246, q_247, q_248, hP1, hK1, hD1⟩ := hB
            replace q_247 : NUX ((fv 0)) n26 1000 (skB ((fv 0)) n26 e_236) k21_240 p22_241 k25_242 r_238 := q_247
            replace q_248 : k21_240 = 0 → p22_241 = (p22_191) := q_248
            rw [ht] at hP1
            have hK := va_K.moved hvm.symm hK1
            generalize H1 = H at hP1 hS ⊢
            have hP : va_P D vwCl (mw h0 ad cs (upd (upd (upd iv 21 (nI k21_240)) 22 p22_241) 25 (nI k25_242)) fv gv) H := hP1
            have hD : va_D A (mw h0 ad cs (upd (upd (upd iv 21 (nI k21_240)) 22 p22_241) 25 (nI k25_242)) fv gv) := hD1.weaken (fun _ _ _ h => hFc _ h)
            rcases q_246 with hp_249 | ⟨rfl, hg_251⟩
            · obtain ⟨P_254, hP_255, hnr_256⟩ := q_247.no (by omega)
              refine lv_istore (lv' := [(4, .int r_238), (3, .int (nI c_218)), (2, .int (nI (10 + v_202))), (1, .int (nI c_9)), (0, .ref h0)]) hx hb dX9_test__138 hl (by decide) rfl (fun ls hl => ?_)
              refine lv_aload_n hx hb dX9_test__140 rfl (lv_at hl 4 rfl) ?_
              refine va_get (D := D) (ci := 9) (v := .int (nI k21_240)) (C := RX9) (T := TX9) (N := 44) hx hb hts hin9 hown hK hP 0 rfl rfl 21 (by decide) (hts (.fieldLink RX9 74 "HoneyHouseModel" "faultKind" "I") (List.mem_of_getElem? (i := 2) rfl)) (fun _ h9 => h9) rfl dX9_test__141 ?_
              refine lv_if_le (tgt := 148) hx hb dX9_test__144 (by decide) (fun c_257 => absurd c_257 (nI_nle (n := k21_240) (by omega) (by omega))) (fun c_257 => ?_)
              have hP : va_P D vwCl (mw h0 ad cs (upd (upd (upd (upd iv 21 (nI k21_240)) 22 p22_241) 25 (nI k25_242)) 30 (iv 30)) (uF fv 19 (fv 19)) gv) H := hP
              have hD : va_D A (mw h0 ad cs (upd (upd (upd (upd iv 21 (nI k21_240)) 22 p22_241) 25 (nI k25_242)) 30 (iv 30)) (uF fv 19 (fv 19)) gv) := hD
              have hP := hP
              rw [h30] at hP hD
              exact W.vret hx hb hr (fun t ht hW => ⟨⟨(), rfl, trivial, k21_240, p22_241, k25_242, n30, fv 19, by omega, by omega, by omega, Or.inl ⟨by omega, by omega, rfl⟩, (by rw [show skB (fv 0) n26 n25 = k25_3 from q_8.eq]; have h6 : skB (fv 0) n26 e_36 = nxF (fv 0) n26 k25_3 := (by rw [nxF, teF_1 (wdE_sp (by omega) hw_13).2, he_11.r, hq_e_36]); have h5 : skB (fv 0) n26 k25_192 = k25_212 := q_217.eq; have h4 : skB (fv 0) n26 e_236 = nxF (fv 0) n26 k25_212 := (by rw [nxF, teF_1 (wdE_sp (by omega) hw_222).2, he_220.r, hq_e_236]); exact ⟨P_254, 10 + v_202, c_218, 0, Or.inr ⟨k25_212, by rw [← h5]; exact (Or.inr (Or.inr (Or.inl (⟨hwc, v_202, by rw [← h6]; exact hnr_206, rfl⟩))) : whtR (fv 0) n26 k25_3 0 (skB (fv 0) n26 k25_192) (10 + v_202)), Or.inr ⟨by omega, by omega, by rw [← h4]; exact hnr_256⟩⟩, fun h9 => by omega, fun _ => hP_255⟩), fun h9 => absurd h9 (by omega), by rw [ht]; exact hP, va_K.moved hW.alike hK, hD⟩, hS.F ht⟩) hS.2.2 dX9_test__147
            obtain ⟨v_252, hv_253, rfl, hnr_256⟩ := q_247.ok
            have pe_258 : p22_241 = p22_191 := q_248 rfl
            refine lv_istore (lv' := [(4, .int (nI v_252)), (3, .int (nI c_218)), (2, .int (nI (10 + v_202))), (1, .int (nI c_9)), (0, .ref h0)]) hx hb dX9_test__138 hl (by decide) rfl (fun ls hl => ?_)
            refine lv_aload_n hx hb dX9_test__140 rfl (lv_at hl 4 rfl) ?_
            refine va_get (D := D) (ci := 9) (v := .int (nI 0)) (C := RX9) (T := TX9) (N := 44) hx hb hts hin9 hown hK hP 0 rfl rfl 21 (by decide) (hts (.fieldLink RX9 74 "HoneyHouseModel" "faultKind" "I") (List.mem_of_getElem? (i := 2) rfl)) (fun _ h9 => h9) rfl dX9_test__141 ?_
            refine lv_if_le (tgt := 148) hx hb dX9_test__144 (by decide) (fun c_259 => ?_) (fun c_259 => absurd (by decide) c_259)
            refine lv_aload_n hx hb dX9_test__148 rfl (lv_at hl 4 rfl) ?_
            refine lv_bipush (v := 13) hx hb dX9_test__149 (by decide) ?_
            have hFc := free_all hD hS hA
            refine va_callv (va_runV (As := [.int 13]) (rest := []) ⟨hx, hb, hml, hown, hts⟩ (m_add l D h0 ad cs (upd (upd (upd iv 21 (nI 0)) 22 p22_241) 25 (nI k25_242)) fv gv n14 n30 13 H.size h14 h30 (by omega) (by omega)) (cwV 1 hts gX9_test__X9_add rfl rfl rfl (by decide +kernel) ⟨Nat.le_of_ble_eq_true rfl, Nat.le_of_ble_eq_true rfl⟩) ⟨fun a U g mk q => by obtain ⟨q0, q1, qP, qK, qD⟩ := q; exact ⟨q0, q1, qP, va_K.moved (u := U) (U := U.calling g mk a) (Vm.Alike.refl U.vm) qK, qD⟩, va_recv hK hP (ci := 9) (q0 := 0) rfl rfl, fun U hU hW => ⟨rfl, by rw [hU], by rw [hU]; exact hP, va_K.moved hW.alike hK, hD.weaken (fun _ _ _ _ => trivial)⟩⟩ rfl rfl hl.1 rfl (lv_room (Nat.le_of_ble_eq_true rfl)) dX9_test__151 ⟨Nat.le_of_ble_eq_true rfl, Nat.le_of_ble_eq_true rfl⟩) hS (fun q _ h => hFc q h) hFc (fun u t H1 locs ht hvm w_261 hB hz1 hk1 hS => ?_)
            obtain ⟨f19_262, q_263, hP1, hK1, hD1⟩ := hB
            replace q_263 : f19_262 = upd ((fv 19)) (200 * n14 + n30) 13 := q_263
            rw [ht] at hP1
            have hK := va_K.moved hvm.symm hK1
            generalize H1 = H at hP1 hS ⊢
            have hP : va_P D vwCl (mw h0 ad cs (upd (upd (upd (upd iv 21 (nI 0)) 22 p22_241) 25 (nI k25_242)) 30 (nI (n30 + 1))) (uF fv 19 f19_262) gv) H := hP1
            have hD : va_D A (mw h0 ad cs (upd (upd (upd (upd iv 21 (nI 0)) 22 p22_241) 25 (nI k25_242)) 30 (nI (n30 + 1))) (uF fv 19 f19_262) gv) := hD1.weaken (fun _ _ _ h => hFc _ h)
            refine lv_aload_n hx hb dX9_test__154 rfl (lv_at hl 4 rfl) ?_
            refine lv_iload_n hx hb dX9_test__155 rfl (lv_at hl 2 rfl) ?_
            have hFc := free_all hD hS hA
            refine va_callv (va_runV (As := [.int (nI (10 + v_202))]) (rest := []) ⟨hx, hb, hml, hown, hts⟩ (m_add l D h0 ad cs (upd (upd (upd (upd iv 21 (nI 0)) 22 p22_241) 25 (nI k25_242)) 30 (nI (n30 + 1))) (uF fv 19 f19_262) gv n14 (n30 + 1) (nI (10 + v_202)) H.size h14 rfl (by omega) (by omega)) (cwV 1 hts gX9_test__X9_add rfl rfl rfl (by decide +kernel) ⟨Nat.le_of_ble_eq_true rfl, Nat.le_of_ble_eq_true rfl⟩) ⟨fun a U g mk q => by obtain ⟨q0, q1, qP, qK, qD⟩ := q; exact ⟨q0, q1, qP, va_K.moved (u := U) (U := U.calling g mk a) (Vm.Alike.refl U.vm) qK, qD⟩, va_recv hK hP (ci := 9) (q0 := 0) rfl rfl, fun U hU hW => ⟨rfl, by rw [hU], by rw [hU]; exact hP, va_K.moved hW.alike hK, hD.weaken (fun _ _ _ _ => trivial)⟩⟩ rfl rfl hl.1 rfl (lv_room (Nat.le_of_ble_eq_true rfl)) dX9_test__156 ⟨Nat.le_of_ble_eq_true rfl, Nat.le_of_ble_eq_true rfl⟩) hS (fun q _ h => hFc q h) hFc (fun u t H1 locs ht hvm w_265 hB hz1 hk1 hS => ?_)
            obtain ⟨f19_266, q_267, hP1, hK1, hD1⟩ := hB
            replace q_267 : f19_266 = upd ((f19_262)) (200 * n14 + (n30 + 1)) (nI (10 + v_202)) := q_267
            rw [ht] at hP1
            have hK := va_K.moved hvm.symm hK1
            generalize H1 = H at hP1 hS ⊢
            have hP : va_P D vwCl (mw h0 ad cs (upd (upd (upd (upd iv 21 (nI 0)) 22 p22_241) 25 (nI k25_242)) 30 (nI ((n30 + 1) + 1))) (uF fv 19 f19_266) gv) H := hP1
            have hD : va_D A (mw h0 ad cs (upd (upd (upd (upd iv 21 (nI 0)) 22 p22_241) 25 (nI k25_242)) 30 (nI ((n30 + 1) + 1))) (uF fv 19 f19_266) gv) := hD1.weaken (fun _ _ _ h => hFc _ h)
            refine lv_aload_n hx hb dX9_test__159 rfl (lv_at hl 4 rfl) ?_
            refine lv_iload_n hx hb dX9_test__160 rfl (lv_at hl 1 rfl) ?_
            have hFc := free_all hD hS hA
            refine va_callv (va_runV (As := [.int (nI c_218)]) (rest := []) ⟨hx, hb, hml, hown, hts⟩ (m_add l D h0 ad cs (upd (upd (upd (upd iv 21 (nI 0)) 22 p22_241) 25 (nI k25_242)) 30 (nI ((n30 + 1) + 1))) (uF fv 19 f19_266) gv n14 ((n30 + 1) + 1) (nI c_218) H.size h14 rfl (by omega) (by omega)) (cwV 1 hts gX9_test__X9_add rfl rfl rfl (by decide +kernel) ⟨Nat.le_of_ble_eq_true rfl, Nat.le_of_ble_eq_true rfl⟩) ⟨fun a U g mk q => by obtain ⟨q0, q1, qP, qK, qD⟩ := q; exact ⟨q0, q1, qP, va_K.moved (u := U) (U := U.calling g mk a) (Vm.Alike.refl U.vm) qK, qD⟩, va_recv hK hP (ci := 9) (q0 := 0) rfl rfl, fun U hU hW => ⟨rfl, by rw [hU], by rw [hU]; exact hP, va_K.moved hW.alike hK, hD.weaken (fun _ _ _ _ => trivial)⟩⟩ rfl rfl hl.1 rfl (lv_room (Nat.le_of_ble_eq_true rfl)) dX9_test__161 ⟨Nat.le_of_ble_eq_true rfl, Nat.le_of_ble_eq_true rfl⟩) hS (fun q _ h => hFc q h) hFc (fun u t H1 locs ht hvm w_269 hB hz1 hk1 hS => ?_)
            obtain ⟨f19_270, q_271, hP1, hK1, hD1⟩ := hB
            replace q_271 : f19_270 = upd ((f19_266)) (200 * n14 + ((n30 + 1) + 1)) (nI c_218) := q_271
            rw [ht] at hP1
            have hK := va_K.moved hvm.symm hK1
            generalize H1 = H at hP1 hS ⊢
            have hP : va_P D vwCl (mw h0 ad cs (upd (upd (upd (upd iv 21 (nI 0)) 22 p22_241) 25 (nI k25_242)) 30 (nI (((n30 + 1) + 1) + 1))) (uF fv 19 f19_270) gv) H := hP1
            have hD : va_D A (mw h0 ad cs (upd (upd (upd (upd iv 21 (nI 0)) 22 p22_241) 25 (nI k25_242)) 30 (nI (((n30 + 1) + 1) + 1))) (uF fv 19 f19_270) gv) := hD1.weaken (fun _ _ _ h => hFc _ h)
            refine lv_aload_n hx hb dX9_test__164 rfl (lv_at hl 4 rfl) ?_
            refine lv_iload hx hb dX9_test__165 (lv_at hl 0 rfl) ?_
            have hFc := free_all hD hS hA
            refine va_callv (va_runV (As := [.int (nI v_252)]) (rest := []) ⟨hx, hb, hml, hown, hts⟩ (m_add l D h0 ad cs (upd (upd (upd (upd iv 21 (nI 0)) 22 p22_241) 25 (nI k25_242)) 30 (nI (((n30 + 1) + 1) + 1))) (uF fv 19 f19_270) gv n14 (((n30 + 1) + 1) + 1) (nI v_252) H.size h14 rfl (by omega) (by omega)) (cwV 1 hts gX9_test__X9_add rfl rfl rfl (by decide +kernel) ⟨Nat.le_of_ble_eq_true rfl, Nat.le_of_ble_eq_true rfl⟩) ⟨fun a U g mk q => by obtain ⟨q0, q1, qP, qK, qD⟩ := q; exact ⟨q0, q1, qP, va_K.moved (u := U) (U := U.calling g mk a) (Vm.Alike.refl U.vm) qK, qD⟩, va_recv hK hP (ci := 9) (q0 := 0) rfl rfl, fun U hU hW => ⟨rfl, by rw [hU], by rw [hU]; exact hP, va_K.moved hW.alike hK, hD.weaken (fun _ _ _ _ => trivial)⟩⟩ rfl rfl hl.1 rfl (lv_room (Nat.le_of_ble_eq_true rfl)) dX9_test__167 ⟨Nat.le_of_ble_eq_true rfl, Nat.le_of_ble_eq_true rfl⟩) hS (fun q _ h => hFc q h) hFc (fun u t H1 locs ht hvm w_273 hB hz1 hk1 hS => ?_)
            obtain ⟨f19_274, q_275, hP1, hK1, hD1⟩ := hB
            replace q_275 : f19_274 = upd ((f19_270)) (200 * n14 + (((n30 + 1) + 1) + 1)) (nI v_252) := q_275
            rw [ht] at hP1
            have hK := va_K.moved hvm.symm hK1
            generalize H1 = H at hP1 hS ⊢
            have hP : va_P D vwCl (mw h0 ad cs (upd (upd (upd (upd iv 21 (nI 0)) 22 p22_241) 25 (nI k25_242)) 30 (nI ((((n30 + 1) + 1) + 1) + 1))) (uF fv 19 f19_274) gv) H := hP1
            have hD : va_D A (mw h0 ad cs (upd (upd (upd (upd iv 21 (nI 0)) 22 p22_241) 25 (nI k25_242)) 30 (nI ((((n30 + 1) + 1) + 1) + 1))) (uF fv 19 f19_274) gv) := hD1.weaken (fun _ _ _ h => hFc _ h)
            have hP : va_P D vwCl (mw h0 ad cs (upd (upd (upd (upd iv 21 (nI 0)) 22 p22_241) 25 (nI k25_242)) 30 (nI ((((n30 + 1) + 1) + 1) + 1))) (uF fv 19 f19_274) gv) H := hP
            have hD : va_D A (mw h0 ad cs (upd (upd (upd (upd iv 21 (nI 0)) 22 p22_241) 25 (nI k25_242)) 30 (nI ((((n30 + 1) + 1) + 1) + 1))) (uF fv 19 f19_274) gv) := hD
            exact W.vret hx hb hr (fun t ht hW => ⟨⟨(), rfl, trivial, 0, p22_241, k25_242, (((n30 + 1) + 1) + 1) + 1, f19_274, by omega, by omega, by omega, Or.inr ⟨by omega, by omega, by omega, fun i h9 => by rw [q_275, up_ne (by omega), q_271, up_ne (by omega), q_267, up_ne (by omega), q_263, up_ne (by omega)], by rw [q_275, up_ne (by omega), q_271, up_ne (by omega), q_267, up_ne (by omega), q_263, up_eq], by rw [q_275, up_ne (by omega), q_271, up_ne (by omega), q_267, up_eq]; exact ⟨10 + v_202, by omega, rfl⟩⟩, (by rw [show skB (fv 0) n26 n25 = k25_3 from q_8.eq]; have h6 : skB (fv 0) n26 e_36 = nxF (fv 0) n26 k25_3 := (by rw [nxF, teF_1 (wdE_sp (by omega) hw_13).2, he_11.r, hq_e_36]); have h5 : skB (fv 0) n26 k25_192 = k25_212 := q_217.eq; have h4 : skB (fv 0) n26 e_236 = nxF (fv 0) n26 k25_212 := (by rw [nxF, teF_1 (wdE_sp (by omega) hw_222).2, he_220.r, hq_e_236]); exact ⟨skB (fv 0) n26 k25_242, 10 + v_202, c_218, v_252, Or.inr ⟨k25_212, by rw [← h5]; exact (Or.inr (Or.inr (Or.inl (⟨hwc, v_202, by rw [← h6]; exact hnr_206, rfl⟩))) : whtR (fv 0) n26 k25_3 0 (skB (fv 0) n26 k25_192) (10 + v_202)), Or.inr ⟨by omega, by omega, by rw [← h4]; exact hnr_256⟩⟩, fun _ => rfl, fun h9 => by omega⟩), fun _ => (pe_258.trans pe_208), by rw [ht]; exact hP, va_K.moved hW.alike hK, hD⟩, hS.F ht⟩) hS.2.2 dX9_test__170
          have d_276 := n_ne (a := c_218) (b := 9) (by omega) (by omega) c_232
          refine lv_iload_n hx hb dX9_test__107 rfl (lv_at hl 0 rfl) ?_
          refine lv_bipush (v := 10) hx hb dX9_test__108 (by decide) ?_
          refine lv_icmp_eq (tgt := 123) hx hb dX9_test__110 (by decide) (fun c_277 => ?_) (fun c_277 => ?_)
          · have d_278 := n_eq (a := c_218) (b := 10) (by omega) (by omega) c_277
            refine lv_aload_n hx hb dX9_test__123 rfl (lv_at hl 3 rfl) ?_
            refine lv_aload_n hx hb dX9_test__124 rfl (lv_at hl 3 rfl) ?_
            refine vp_callSi (W.runV (As := []) (rest := [.ref h0]) ⟨hx, hb, hml, hown, hts⟩ (m_wordEnd l D h0 ad cs (upd (upd (upd iv 21 (nI 0)) 22 p22_191) 25 (nI k25_212)) fv gv k25_212 n26  rfl h26 (by omega) (by omega)) (cwV 0 hts gX9_test__X9_wordEnd rfl rfl rfl (by decide +kernel) ⟨Nat.le_of_ble_eq_true rfl, Nat.le_of_ble_eq_true rfl⟩) ⟨fun a U g mk q => ⟨q.1, q.2.1, va_K.moved (u := U) (U := U.calling g mk a) (Vm.Alike.refl U.vm) q.2.2⟩, va_recv hK hP (ci := 9) (q0 := 0) rfl rfl, fun U hU hW => ⟨rfl, by rw [hU]; exact hP, va_K.moved hW.alike hK⟩⟩ rfl rfl hl.1 rfl (lv_room (Nat.le_of_ble_eq_true rfl)) dX9_test__125 ⟨Nat.le_of_ble_eq_true rfl, Nat.le_of_ble_eq_true rfl⟩) (fun r_279 k_280 => ?_)
            obtain ⟨e_281, rfl, he_282⟩ := k_280
            have hq_e_281 : e_281 = e_219 := he_282.uq he_220
            refine va_put (D := D) (ci := 9) (v := .int (nI e_281)) (ty := .int) (C := RX9) (T := TX9) (N := 44) hx hb hts hin9 tyX9 tyX9_ok nmX9 hown hK hP hD hS 0 rfl rfl 25 (by decide) (hts (.fieldLink RX9 87 "HoneyHouseModel" "at" "I") (List.mem_of_getElem? (i := 1) rfl)) (fun _ h9 => h9) rfl (tyX9_ok 25 (by decide)) rfl rfl (Nat.le_of_ble_eq_true rfl) dX9_test__128 (fun H locs hP hD hS => ?_)
            have hP : va_P D vwCl (mw h0 ad cs (upd (upd (upd iv 21 (nI 0)) 22 p22_191) 25 (nI e_281)) fv gv) H := hP
            have hD : va_D A (mw h0 ad cs (upd (upd (upd iv 21 (nI 0)) 22 p22_191) 25 (nI e_281)) fv gv) := hD
            refine lv_aload_n hx hb dX9_test__131 rfl (lv_at hl 3 rfl) ?_
            refine lv_sipush (v := 1000) hx hb dX9_test__132 (by decide) ?_
            have hFc := free_all hD hS hA
            refine va_calli (va_runV (As := [.int 1000]) (rest := []) ⟨hx, hb, hml, hown, hts⟩ (m_number l D h0 ad cs (upd (upd (upd iv 21 (nI 0)) 22 p22_191) 25 (nI e_281)) fv gv 0 e_281 n26 1000 H.size rfl rfl h26 (by omega) (by omega) (by omega) (by omega)) (cwV 1 hts gX9_test__X9_number rfl rfl rfl (by decide +kernel) ⟨Nat.le_of_ble_eq_true rfl, Nat.le_of_ble_eq_true rfl⟩) ⟨fun a U g mk q => by obtain ⟨q0, q1, qP, qK, qD⟩ := q; exact ⟨q0, q1, qP, va_K.moved (u := U) (U := U.calling g mk a) (Vm.Alike.refl U.vm) qK, qD⟩, va_recv hK hP (ci := 9) (q0 := 0) rfl rfl, fun U hU hW => ⟨rfl, by rw [hU], by rw [hU]; exact hP, va_K.moved hW.alike hK, hD.weaken (fun _ _ _ _ => trivial)⟩⟩ rfl rfl hl.1 rfl (lv_room (Nat.le_of_ble_eq_true rfl)) dX9_test__135 ⟨Nat.le_of_ble_eq_true rfl, Nat.le_of_ble_eq_true rfl⟩) hS (fun q _ h => hFc q h) hFc (fun r_283 u t H1 locs ht hvm w_284 hB hz1 hk1 hS => ?_)
            subst w_284
            obtain ⟨k21_285, p22_286, k25_287, q_288, q_289, q_290, q_291, q_292, q_293, hP1, hK1, hD1⟩ := hB
            replace q_292 : NUX ((fv 0)) n26 1000 (skB ((fv 0)) n26 e_281) k21_285 p22_286 k25_287 r_283 := q_292
            replace q_293 : k21_285 = 0 → p22_286 = (p22_191) := q_293
            rw [ht] at hP1
            have hK := va_K.moved hvm.symm hK1
            generalize H1 = H at hP1 hS ⊢
            have hP : va_P D vwCl (mw h0 ad cs (upd (upd (upd iv 21 (nI k21_285)) 22 p22_286) 25 (nI k25_287)) fv gv) H := hP1
            have hD : va_D A (mw h0 ad cs (upd (upd (upd iv 21 (nI k21_285)) 22 p22_286) 25 (nI k25_287)) fv gv) := hD1.weaken (fun _ _ _ h => hFc _ h)
            rcases q_291 with hp_294 | ⟨rfl, hg_296⟩
            · obtain ⟨P_299, hP_300, hnr_301⟩ := q_292.no (by omega)
              refine lv_istore (lv' := [(4, .int r_283), (3, .int (nI c_218)), (2, .int (nI (10 + v_202))), (1, .int (nI c_9)), (0, .ref h0)]) hx hb dX9_test__138 hl (by decide) rfl (fun ls hl => ?_)
              refine lv_aload_n hx hb dX9_test__140 rfl (lv_at hl 4 rfl) ?_
              refine va_get (D := D) (ci := 9) (v := .int (nI k21_285)) (C := RX9) (T := TX9) (N := 44) hx hb hts hin9 hown hK hP 0 rfl rfl 21 (by decide) (hts (.fieldLink RX9 74 "HoneyHouseModel" "faultKind" "I") (List.mem_of_getElem? (i := 2) rfl)) (fun _ h9 => h9) rfl dX9_test__141 ?_
              refine lv_if_le (tgt := 148) hx hb dX9_test__144 (by decide) (fun c_302 => absurd c_302 (nI_nle (n := k21_285) (by omega) (by omega))) (fun c_302 => ?_)
              have hP : va_P D vwCl (mw h0 ad cs (upd (upd (upd (upd iv 21 (nI k21_285)) 22 p22_286) 25 (nI k25_287)) 30 (iv 30)) (uF fv 19 (fv 19)) gv) H := hP
              have hD : va_D A (mw h0 ad cs (upd (upd (upd (upd iv 21 (nI k21_285)) 22 p22_286) 25 (nI k25_287)) 30 (iv 30)) (uF fv 19 (fv 19)) gv) := hD
              have hP := hP
              rw [h30] at hP hD
              exact W.vret hx hb hr (fun t ht hW => ⟨⟨(), rfl, trivial, k21_285, p22_286, k25_287, n30, fv 19, by omega, by omega, by omega, Or.inl ⟨by omega, by omega, rfl⟩, (by rw [show skB (fv 0) n26 n25 = k25_3 from q_8.eq]; have h6 : skB (fv 0) n26 e_36 = nxF (fv 0) n26 k25_3 := (by rw [nxF, teF_1 (wdE_sp (by omega) hw_13).2, he_11.r, hq_e_36]); have h5 : skB (fv 0) n26 k25_192 = k25_212 := q_217.eq; have h4 : skB (fv 0) n26 e_281 = nxF (fv 0) n26 k25_212 := (by rw [nxF, teF_1 (wdE_sp (by omega) hw_222).2, he_220.r, hq_e_281]); exact ⟨P_299, 10 + v_202, c_218, 0, Or.inr ⟨k25_212, by rw [← h5]; exact (Or.inr (Or.inr (Or.inl (⟨hwc, v_202, by rw [← h6]; exact hnr_206, rfl⟩))) : whtR (fv 0) n26 k25_3 0 (skB (fv 0) n26 k25_192) (10 + v_202)), Or.inr ⟨by omega, by omega, by rw [← h4]; exact hnr_301⟩⟩, fun h9 => by omega, fun _ => hP_300⟩), fun h9 => absurd h9 (by omega), by rw [ht]; exact hP, va_K.moved hW.alike hK, hD⟩, hS.F ht⟩) hS.2.2 dX9_test__147
            obtain ⟨v_297, hv_298, rfl, hnr_301⟩ := q_292.ok
            have pe_303 : p22_286 = p22_191 := q_293 rfl
            refine lv_istore (lv' := [(4, .int (nI v_297)), (3, .int (nI c_218)), (2, .int (nI (10 + v_202))), (1, .int (nI c_9)), (0, .ref h0)]) hx hb dX9_test__138 hl (by decide) rfl (fun ls hl => ?_)
            refine lv_aload_n hx hb dX9_test__140 rfl (lv_at hl 4 rfl) ?_
            refine va_get (D := D) (ci := 9) (v := .int (nI 0)) (C := RX9) (T := TX9) (N := 44) hx hb hts hin9 hown hK hP 0 rfl rfl 21 (by decide) (hts (.fieldLink RX9 74 "HoneyHouseModel" "faultKind" "I") (List.mem_of_getElem? (i := 2) rfl)) (fun _ h9 => h9) rfl dX9_test__141 ?_
            refine lv_if_le (tgt := 148) hx hb dX9_test__144 (by decide) (fun c_304 => ?_) (fun c_304 => absurd (by decide) c_304)
            refine lv_aload_n hx hb dX9_test__148 rfl (lv_at hl 4 rfl) ?_
            refine lv_bipush (v := 13) hx hb dX9_test__149 (by decide) ?_
            have hFc := free_all hD hS hA
            refine va_callv (va_runV (As := [.int 13]) (rest := []) ⟨hx, hb, hml, hown, hts⟩ (m_add l D h0 ad cs (upd (upd (upd iv 21 (nI 0)) 22 p22_286) 25 (nI k25_287)) fv gv n14 n30 13 H.size h14 h30 (by omega) (by omega)) (cwV 1 hts gX9_test__X9_add rfl rfl rfl (by decide +kernel) ⟨Nat.le_of_ble_eq_true rfl, Nat.le_of_ble_eq_true rfl⟩) ⟨fun a U g mk q => by obtain ⟨q0, q1, qP, qK, qD⟩ := q; exact ⟨q0, q1, qP, va_K.moved (u := U) (U := U.calling g mk a) (Vm.Alike.refl U.vm) qK, qD⟩, va_recv hK hP (ci := 9) (q0 := 0) rfl rfl, fun U hU hW => ⟨rfl, by rw [hU], by rw [hU]; exact hP, va_K.moved hW.alike hK, hD.weaken (fun _ _ _ _ => trivial)⟩⟩ rfl rfl hl.1 rfl (lv_room (Nat.le_of_ble_eq_true rfl)) dX9_test__151 ⟨Nat.le_of_ble_eq_true rfl, Nat.le_of_ble_eq_true rfl⟩) hS (fun q _ h => hFc q h) hFc (fun u t H1 locs ht hvm w_306 hB hz1 hk1 hS => ?_)
            obtain ⟨f19_307, q_308, hP1, hK1, hD1⟩ := hB
            replace q_308 : f19_307 = upd ((fv 19)) (200 * n14 + n30) 13 := q_308
            rw [ht] at hP1
            have hK := va_K.moved hvm.symm hK1
            generalize H1 = H at hP1 hS ⊢
            have hP : va_P D vwCl (mw h0 ad cs (upd (upd (upd (upd iv 21 (nI 0)) 22 p22_286) 25 (nI k25_287)) 30 (nI (n30 + 1))) (uF fv 19 f19_307) gv) H := hP1
            have hD : va_D A (mw h0 ad cs (upd (upd (upd (upd iv 21 (nI 0)) 22 p22_286) 25 (nI k25_287)) 30 (nI (n30 + 1))) (uF fv 19 f19_307) gv) := hD1.weaken (fun _ _ _ h => hFc _ h)
            refine lv_aload_n hx hb dX9_test__154 rfl (lv_at hl 4 rfl) ?_
            refine lv_iload_n hx hb dX9_test__155 rfl (lv_at hl 2 rfl) ?_
            have hFc := free_all hD hS hA
            refine va_callv (va_runV (As := [.int (nI (10 + v_202))]) (rest := []) ⟨hx, hb, hml, hown, hts⟩ (m_add l D h0 ad cs (upd (upd (upd (upd iv 21 (nI 0)) 22 p22_286) 25 (nI k25_287)) 30 (nI (n30 + 1))) (uF fv 19 f19_307) gv n14 (n30 + 1) (nI (10 + v_202)) H.size h14 rfl (by omega) (by omega)) (cwV 1 hts gX9_test__X9_add rfl rfl rfl (by decide +kernel) ⟨Nat.le_of_ble_eq_true rfl, Nat.le_of_ble_eq_true rfl⟩) ⟨fun a U g mk q => by obtain ⟨q0, q1, qP, qK, qD⟩ := q; exact ⟨q0, q1, qP, va_K.moved (u := U) (U := U.calling g mk a) (Vm.Alike.refl U.vm) qK, qD⟩, va_recv hK hP (ci := 9) (q0 := 0) rfl rfl, fun U hU hW => ⟨rfl, by rw [hU], by rw [hU]; exact hP, va_K.moved hW.alike hK, hD.weaken (fun _ _ _ _ => trivial)⟩⟩ rfl rfl hl.1 rfl (lv_room (Nat.le_of_ble_eq_true rfl)) dX9_test__156 ⟨Nat.le_of_ble_eq_true rfl, Nat.le_of_ble_eq_true rfl⟩) hS (fun q _ h => hFc q h) hFc (fun u t H1 locs ht hvm w_310 hB hz1 hk1 hS => ?_)
            obtain ⟨f19_311, q_312, hP1, hK1, hD1⟩ := hB
            replace q_312 : f19_311 = upd ((f19_307)) (200 * n14 + (n30 + 1)) (nI (10 + v_202)) := q_312
            rw [ht] at hP1
            have hK := va_K.moved hvm.symm hK1
            generalize H1 = H at hP1 hS ⊢
            have hP : va_P D vwCl (mw h0 ad cs (upd (upd (upd (upd iv 21 (nI 0)) 22 p22_286) 25 (nI k25_287)) 30 (nI ((n30 + 1) + 1))) (uF fv 19 f19_311) gv) H := hP1
            have hD : va_D A (mw h0 ad cs (upd (upd (upd (upd iv 21 (nI 0)) 22 p22_286) 25 (nI k25_287)) 30 (nI ((n30 + 1) + 1))) (uF fv 19 f19_311) gv) := hD1.weaken (fun _ _ _ h => hFc _ h)
            refine lv_aload_n hx hb dX9_test__159 rfl (lv_at hl 4 rfl) ?_
            refine lv_iload_n hx hb dX9_test__160 rfl (lv_at hl 1 rfl) ?_
            have hFc := free_all hD hS hA
            refine va_callv (va_runV (As := [.int (nI c_218)]) (rest := []) ⟨hx, hb, hml, hown, hts⟩ (m_add l D h0 ad cs (upd (upd (upd (upd iv 21 (nI 0)) 22 p22_286) 25 (nI k25_287)) 30 (nI ((n30 + 1) + 1))) (uF fv 19 f19_311) gv n14 ((n30 + 1) + 1) (nI c_218) H.size h14 rfl (by omega) (by omega)) (cwV 1 hts gX9_test__X9_add rfl rfl rfl (by decide +kernel) ⟨Nat.le_of_ble_eq_true rfl, Nat.le_of_ble_eq_true rfl⟩) ⟨fun a U g mk q => by obtain ⟨q0, q1, qP, qK, qD⟩ := q; exact ⟨q0, q1, qP, va_K.moved (u := U) (U := U.calling g mk a) (Vm.Alike.refl U.vm) qK, qD⟩, va_recv hK hP (ci := 9) (q0 := 0) rfl rfl, fun U hU hW => ⟨rfl, by rw [hU], by rw [hU]; exact hP, va_K.moved hW.alike hK, hD.weaken (fun _ _ _ _ => trivial)⟩⟩ rfl rfl hl.1 rfl (lv_room (Nat.le_of_ble_eq_true rfl)) dX9_test__161 ⟨Nat.le_of_ble_eq_true rfl, Nat.le_of_ble_eq_true rfl⟩) hS (fun q _ h => hFc q h) hFc (fun u t H1 locs ht hvm w_314 hB hz1 hk1 hS => ?_)
            obtain ⟨f19_315, q_316, hP1, hK1, hD1⟩ := hB
            replace q_316 : f19_315 = upd ((f19_311)) (200 * n14 + ((n30 + 1) + 1)) (nI c_218) := q_316
            rw [ht] at hP1
            have hK := va_K.moved hvm.symm hK1
            generalize H1 = H at hP1 hS ⊢
            have hP : va_P D vwCl (mw h0 ad cs (upd (upd (upd (upd iv 21 (nI 0)) 22 p22_286) 25 (nI k25_287)) 30 (nI (((n30 + 1) + 1) + 1))) (uF fv 19 f19_315) gv) H := hP1
            have hD : va_D A (mw h0 ad cs (upd (upd (upd (upd iv 21 (nI 0)) 22 p22_286) 25 (nI k25_287)) 30 (nI (((n30 + 1) + 1) + 1))) (uF fv 19 f19_315) gv) := hD1.weaken (fun _ _ _ h => hFc _ h)
            refine lv_aload_n hx hb dX9_test__164 rfl (lv_at hl 4 rfl) ?_
            refine lv_iload hx hb dX9_test__165 (lv_at hl 0 rfl) ?_
            have hFc := free_all hD hS hA
            refine va_callv (va_runV (As := [.int (nI v_297)]) (rest := []) ⟨hx, hb, hml, hown, hts⟩ (m_add l D h0 ad cs (upd (upd (upd (upd iv 21 (nI 0)) 22 p22_286) 25 (nI k25_287)) 30 (nI (((n30 + 1) + 1) + 1))) (uF fv 19 f19_315) gv n14 (((n30 + 1) + 1) + 1) (nI v_297) H.size h14 rfl (by omega) (by omega)) (cwV 1 hts gX9_test__X9_add rfl rfl rfl (by decide +kernel) ⟨Nat.le_of_ble_eq_true rfl, Nat.le_of_ble_eq_true rfl⟩) ⟨fun a U g mk q => by obtain ⟨q0, q1, qP, qK, qD⟩ := q; exact ⟨q0, q1, qP, va_K.moved (u := U) (U := U.calling g mk a) (Vm.Alike.refl U.vm) qK, qD⟩, va_recv hK hP (ci := 9) (q0 := 0) rfl rfl, fun U hU hW => ⟨rfl, by rw [hU], by rw [hU]; exact hP, va_K.moved hW.alike hK, hD.weaken (fun _ _ _ _ => trivial)⟩⟩ rfl rfl hl.1 rfl (lv_room (Nat.le_of_ble_eq_true rfl)) dX9_test__167 ⟨Nat.le_of_ble_eq_true rfl, Nat.le_of_ble_eq_true rfl⟩) hS (fun q _ h => hFc q h) hFc (fun u t H1 locs ht hvm w_318 hB hz1 hk1 hS => ?_)
            obtain ⟨f19_319, q_320, hP1, hK1, hD1⟩ := hB
            replace q_320 : f19_319 = upd ((f19_315)) (200 * n14 + (((n30 + 1) + 1) + 1)) (nI v_297) := q_320
            rw [ht] at hP1
            have hK := va_K.moved hvm.symm hK1
            generalize H1 = H at hP1 hS ⊢
            have hP : va_P D vwCl (mw h0 ad cs (upd (upd (upd (upd iv 21 (nI 0)) 22 p22_286) 25 (nI k25_287)) 30 (nI ((((n30 + 1) + 1) + 1) + 1))) (uF fv 19 f19_319) gv) H := hP1
            have hD : va_D A (mw h0 ad cs (upd (upd (upd (upd iv 21 (nI 0)) 22 p22_286) 25 (nI k25_287)) 30 (nI ((((n30 + 1) + 1) + 1) + 1))) (uF fv 19 f19_319) gv) := hD1.weaken (fun _ _ _ h => hFc _ h)
            have hP : va_P D vwCl (mw h0 ad cs (upd (upd (upd (upd iv 21 (nI 0)) 22 p22_286) 25 (nI k25_287)) 30 (nI ((((n30 + 1) + 1) + 1) + 1))) (uF fv 19 f19_319) gv) H := hP
            have hD : va_D A (mw h0 ad cs (upd (upd (upd (upd iv 21 (nI 0)) 22 p22_286) 25 (nI k25_287)) 30 (nI ((((n30 + 1) + 1) + 1) + 1))) (uF fv 19 f19_319) gv) := hD
            exact W.vret hx hb hr (fun t ht hW => ⟨⟨(), rfl, trivial, 0, p22_286, k25_287, (((n30 + 1) + 1) + 1) + 1, f19_319, by omega, by omega, by omega, Or.inr ⟨by omega, by omega, by omega, fun i h9 => by rw [q_320, up_ne (by omega), q_316, up_ne (by omega), q_312, up_ne (by omega), q_308, up_ne (by omega)], by rw [q_320, up_ne (by omega), q_316, up_ne (by omega), q_312, up_ne (by omega), q_308, up_eq], by rw [q_320, up_ne (by omega), q_316, up_ne (by omega), q_312, up_eq]; exact ⟨10 + v_202, by omega, rfl⟩⟩, (by rw [show skB (fv 0) n26 n25 = k25_3 from q_8.eq]; have h6 : skB (fv 0) n26 e_36 = nxF (fv 0) n26 k25_3 := (by rw [nxF, teF_1 (wdE_sp (by omega) hw_13).2, he_11.r, hq_e_36]); have h5 : skB (fv 0) n26 k25_192 = k25_212 := q_217.eq; have h4 : skB (fv 0) n26 e_281 = nxF (fv 0) n26 k25_212 := (by rw [nxF, teF_1 (wdE_sp (by omega) hw_222).2, he_220.r, hq_e_281]); exact ⟨skB (fv 0) n26 k25_287, 10 + v_202, c_218, v_297, Or.inr ⟨k25_212, by rw [← h5]; exact (Or.inr (Or.inr (Or.inl (⟨hwc, v_202, by rw [← h6]; exact hnr_206, rfl⟩))) : whtR (fv 0) n26 k25_3 0 (skB (fv 0) n26 k25_192) (10 + v_202)), Or.inr ⟨by omega, by omega, by rw [← h4]; exact hnr_301⟩⟩, fun _ => rfl, fun h9 => by omega⟩), fun _ => (pe_303.trans pe_208), by rw [ht]; exact hP, va_K.moved hW.alike hK, hD⟩, hS.F ht⟩) hS.2.2 dX9_test__170
          have d_321 := n_ne (a := c_218) (b := 10) (by omega) (by omega) c_277
          refine lv_aload_n hx hb dX9_test__113 rfl (lv_at hl 3 rfl) ?_
          refine lv_iconst (v := 1) hx hb dX9_test__114 (by decide) ?_
          refine lv_aload_n hx hb dX9_test__115 rfl (lv_at hl 3 rfl) ?_
          refine va_get (D := D) (ci := 9) (v := .int (nI k25_212)) (C := RX9) (T := TX9) (N := 44) hx hb hts hin9 hown hK hP 0 rfl rfl 25 (by decide) (hts (.fieldLink RX9 87 "HoneyHouseModel" "at" "I") (List.mem_of_getElem? (i := 1) rfl)) (fun _ h9 => h9) rfl dX9_test__116 ?_
          have hFc := free_all hD hS hA
          refine va_callv (va_runV (As := [.int 1, .int (nI k25_212)]) (rest := []) ⟨hx, hb, hml, hown, hts⟩ (m_blame l D h0 ad cs (upd (upd (upd iv 21 (nI 0)) 22 p22_191) 25 (nI k25_212)) fv gv 0 1 (nI k25_212) H.size rfl (by omega) (by omega)) (cwV 2 hts gX9_test__X9_blame rfl rfl rfl (by decide +kernel) ⟨Nat.le_of_ble_eq_true rfl, Nat.le_of_ble_eq_true rfl⟩) ⟨fun a U g mk q => by obtain ⟨q0, q1, qP, qK, qD⟩ := q; exact ⟨q0, q1, qP, va_K.moved (u := U) (U := U.calling g mk a) (Vm.Alike.refl U.vm) qK, qD⟩, va_recv hK hP (ci := 9) (q0 := 0) rfl rfl, fun U hU hW => ⟨rfl, by rw [hU], by rw [hU]; exact hP, va_K.moved hW.alike hK, hD.weaken (fun _ _ _ _ => trivial)⟩⟩ rfl rfl hl.1 rfl (lv_room (Nat.le_of_ble_eq_true rfl)) dX9_test__119 ⟨Nat.le_of_ble_eq_true rfl, Nat.le_of_ble_eq_true rfl⟩) hS (fun q _ h => hFc q h) hFc (fun u t H1 locs ht hvm w_323 hB hz1 hk1 hS => ?_)
          obtain ⟨k21_324, p22_325, q_326, q_327, q_328, hP1, hK1, hD1⟩ := hB
          replace q_328 : (0 = 0 → k21_324 = 1 ∧ p22_325 = (nI k25_212)) ∧ (¬ 0 = 0 → k21_324 = 0 ∧ p22_325 = (p22_191)) := q_328
          rw [ht] at hP1
          have hK := va_K.moved hvm.symm hK1
          generalize H1 = H at hP1 hS ⊢
          have hP : va_P D vwCl (mw h0 ad cs (upd (upd (upd iv 21 (nI k21_324)) 22 p22_325) 25 (nI k25_212)) fv gv) H := hP1
          have hD : va_D A (mw h0 ad cs (upd (upd (upd iv 21 (nI k21_324)) 22 p22_325) 25 (nI k25_212)) fv gv) := hD1.weaken (fun _ _ _ h => hFc _ h)
          have hP : va_P D vwCl (mw h0 ad cs (upd (upd (upd (upd iv 21 (nI k21_324)) 22 p22_325) 25 (nI k25_212)) 30 (iv 30)) (uF fv 19 (fv 19)) gv) H := hP
          have hD : va_D A (mw h0 ad cs (upd (upd (upd (upd iv 21 (nI k21_324)) 22 p22_325) 25 (nI k25_212)) 30 (iv 30)) (uF fv 19 (fv 19)) gv) := hD
          have hP := hP
          rw [h30] at hP hD
          exact W.vret hx hb hr (fun t ht hW => ⟨⟨(), rfl, trivial, k21_324, p22_325, k25_212, n30, fv 19, by omega, by omega, by omega, Or.inl ⟨by omega, by omega, rfl⟩, (by rw [show skB (fv 0) n26 n25 = k25_3 from q_8.eq]; have h6 : skB (fv 0) n26 e_36 = nxF (fv 0) n26 k25_3 := (by rw [nxF, teF_1 (wdE_sp (by omega) hw_13).2, he_11.r, hq_e_36]); have h5 : skB (fv 0) n26 k25_192 = k25_212 := q_217.eq; exact ⟨k25_212, 10 + v_202, 0, 0, Or.inr ⟨k25_212, by rw [← h5]; exact (Or.inr (Or.inr (Or.inl (⟨hwc, v_202, by rw [← h6]; exact hnr_206, rfl⟩))) : whtR (fv 0) n26 k25_3 0 (skB (fv 0) n26 k25_192) (10 + v_202)), Or.inl ⟨by omega, (q_328.1 (by omega)).1, rfl⟩⟩, fun h9 => by omega, fun _ => (q_328.1 (by omega)).2⟩), fun h9 => absurd h9 (by omega), by rw [ht]; exact hP, va_K.moved hW.alike hK, hD⟩, hS.F ht⟩) hS.2.2 dX9_test__122
        have d_329 := n_eq (a := c_9) (b := 6) (by omega) (by omega) c_42
        have hwc : wdE (fv 0) n26 k25_3 = 6 := by omega
        refine lv_iconst (v := 2) hx hb dX9_test__58 (by decide) ?_
        refine lv_goto (tgt := 87) hx hb dX9_test__59 (by decide) ?_
        refine lv_istore_n (lv' := [(2, .int 2), (1, .int (nI c_9)), (0, .ref h0)]) hx hb dX9_test__87 rfl hl (by decide) rfl (fun ls hl => ?_)
        refine lv_aload_n hx hb dX9_test__88 rfl (lv_at hl 2 rfl) ?_
        refine va_get (D := D) (ci := 9) (v := .int (iv 21)) (C := RX9) (T := TX9) (N := 44) hx hb hts hin9 hown hK hP 0 rfl rfl 21 (by decide) (hts (.fieldLink RX9 74 "HoneyHouseModel" "faultKind" "I") (List.mem_of_getElem? (i := 2) rfl)) (fun _ h9 => h9) rfl dX9_test__89 ?_
        refine tp_i (y := nI n21) (h21) ?_
        refine lv_if_le (tgt := 96) hx hb dX9_test__92 (by decide) (fun c_330 => ?_) (fun c_330 => ?_)
        · have d_331 := n_le (a := n21) (b := 0) (by omega) (by omega) c_330
          refine lv_aload_n hx hb dX9_test__96 rfl (lv_at hl 2 rfl) ?_
          have hFc := free_all hD hS hA
          refine va_calli (va_runV (As := []) (rest := []) ⟨hx, hb, hml, hown, hts⟩ (m_peek l D h0 ad cs (upd iv 25 (nI e_36)) fv gv e_36 n26  H.size rfl h26 (by omega) (by omega)) (cwV 0 hts gX9_test__X9_peek rfl rfl rfl (by decide +kernel) ⟨Nat.le_of_ble_eq_true rfl, Nat.le_of_ble_eq_true rfl⟩) ⟨fun a U g mk q => by obtain ⟨q0, q1, qP, qK, qD⟩ := q; exact ⟨q0, q1, qP, va_K.moved (u := U) (U := U.calling g mk a) (Vm.Alike.refl U.vm) qK, qD⟩, va_recv hK hP (ci := 9) (q0 := 0) rfl rfl, fun U hU hW => ⟨rfl, by rw [hU], by rw [hU]; exact hP, va_K.moved hW.alike hK, hD.weaken (fun _ _ _ _ => trivial)⟩⟩ rfl rfl hl.1 rfl (lv_room (Nat.le_of_ble_eq_true rfl)) dX9_test__97 ⟨Nat.le_of_ble_eq_true rfl, Nat.le_of_ble_eq_true rfl⟩) hS (fun q _ h => hFc q h) hFc (fun r_332 u t H1 locs ht hvm w_333 hB hz1 hk1 hS => ?_)
          subst w_333
          obtain ⟨k25_334, q_335, q_336, q_337, q_338, q_339, hP1, hK1, hD1⟩ := hB
          replace q_337 : (e_36 = n26 ∨ ¬ blk ((fv 0) e_36)) → k25_334 = e_36 := q_337
          replace q_338 : PKD ((fv 0)) n26 k25_334 r_332 := q_338
          replace q_339 : isRn blk ((fv 0)) n26 e_36 k25_334 := q_339
          rw [ht] at hP1
          have hK := va_K.moved hvm.symm hK1
          generalize H1 = H at hP1 hS ⊢
          have hP : va_P D vwCl (mw h0 ad cs (upd iv 25 (nI k25_334)) fv gv) H := hP1
          have hD : va_D A (mw h0 ad cs (upd iv 25 (nI k25_334)) fv gv) := hD1.weaken (fun _ _ _ h => hFc _ h)
          rcases q_338 with ⟨rfl, hw_344⟩ | ⟨c_340, e_341, rfl, he_342, hc_343, hw_344⟩
          · refine lv_istore_n (lv' := [(3, .int (-1)), (2, .int 2), (1, .int (nI c_9)), (0, .ref h0)]) hx hb dX9_test__100 rfl hl (by decide) rfl (fun ls hl => ?_)
            refine lv_iload_n hx hb dX9_test__101 rfl (lv_at hl 0 rfl) ?_
            refine lv_bipush (v := 9) hx hb dX9_test__102 (by decide) ?_
            refine lv_icmp_eq (tgt := 123) hx hb dX9_test__104 (by decide) (fun c_345 => absurd c_345 (by decide)) (fun c_345 => ?_)
            refine lv_iload_n hx hb dX9_test__107 rfl (lv_at hl 0 rfl) ?_
            refine lv_bipush (v := 10) hx hb dX9_test__108 (by decide) ?_
            refine lv_icmp_eq (tgt := 123) hx hb dX9_test__110 (by decide) (fun c_346 => absurd c_346 (by decide)) (fun c_346 => ?_)
            refine lv_aload_n hx hb dX9_test__113 rfl (lv_at hl 3 rfl) ?_
            refine lv_iconst (v := 1) hx hb dX9_test__114 (by decide) ?_
            refine lv_aload_n hx hb dX9_test__115 rfl (lv_at hl 3 rfl) ?_
            refine va_get (D := D) (ci := 9) (v := .int (nI k25_334)) (C := RX9) (T := TX9) (N := 44) hx hb hts hin9 hown hK hP 0 rfl rfl 25 (by decide) (hts (.fieldLink RX9 87 "HoneyHouseModel" "at" "I") (List.mem_of_getElem? (i := 1) rfl)) (fun _ h9 => h9) rfl dX9_test__116 ?_
            have hFc := free_all hD hS hA
            refine va_callv (va_runV (As := [.int 1, .int (nI k25_334)]) (rest := []) ⟨hx, hb, hml, hown, hts⟩ (m_blame l D h0 ad cs (upd iv 25 (nI k25_334)) fv gv n21 1 (nI k25_334) H.size h21 (by omega) (by omega)) (cwV 2 hts gX9_test__X9_blame rfl rfl rfl (by decide +kernel) ⟨Nat.le_of_ble_eq_true rfl, Nat.le_of_ble_eq_true rfl⟩) ⟨fun a U g mk q => by obtain ⟨q0, q1, qP, qK, qD⟩ := q; exact ⟨q0, q1, qP, va_K.moved (u := U) (U := U.calling g mk a) (Vm.Alike.refl U.vm) qK, qD⟩, va_recv hK hP (ci := 9) (q0 := 0) rfl rfl, fun U hU hW => ⟨rfl, by rw [hU], by rw [hU]; exact hP, va_K.moved hW.alike hK, hD.weaken (fun _ _ _ _ => trivial)⟩⟩ rfl rfl hl.1 rfl (lv_room (Nat.le_of_ble_eq_true rfl)) dX9_test__119 ⟨Nat.le_of_ble_eq_true rfl, Nat.le_of_ble_eq_true rfl⟩) hS (fun q _ h => hFc q h) hFc (fun u t H1 locs ht hvm w_348 hB hz1 hk1 hS => ?_)
            obtain ⟨k21_349, p22_350, q_351, q_352, q_353, hP1, hK1, hD1⟩ := hB
            replace q_353 : (n21 = 0 → k21_349 = 1 ∧ p22_350 = (nI k25_334)) ∧ (¬ n21 = 0 → k21_349 = n21 ∧ p22_350 = (iv 22)) := q_353
            rw [ht] at hP1
            have hK := va_K.moved hvm.symm hK1
            generalize H1 = H at hP1 hS ⊢
            have hP : va_P D vwCl (mw h0 ad cs (upd (upd (upd iv 21 (nI k21_349)) 22 p22_350) 25 (nI k25_334)) fv gv) H := hP1
            have hD : va_D A (mw h0 ad cs (upd (upd (upd iv 21 (nI k21_349)) 22 p22_350) 25 (nI k25_334)) fv gv) := hD1.weaken (fun _ _ _ h => hFc _ h)
            have hP : va_P D vwCl (mw h0 ad cs (upd (upd (upd (upd iv 21 (nI k21_349)) 22 p22_350) 25 (nI k25_334)) 30 (iv 30)) (uF fv 19 (fv 19)) gv) H := hP
            have hD : va_D A (mw h0 ad cs (upd (upd (upd (upd iv 21 (nI k21_349)) 22 p22_350) 25 (nI k25_334)) 30 (iv 30)) (uF fv 19 (fv 19)) gv) := hD
            have hP := hP
            rw [h30] at hP hD
            exact W.vret hx hb hr (fun t ht hW => ⟨⟨(), rfl, trivial, k21_349, p22_350, k25_334, n30, fv 19, by omega, by omega, by omega, Or.inl ⟨by omega, by omega, rfl⟩, (by rw [show skB (fv 0) n26 n25 = k25_3 from q_8.eq]; have h6 : skB (fv 0) n26 e_36 = nxF (fv 0) n26 k25_3 := (by rw [nxF, teF_1 (wdE_sp (by omega) hw_13).2, he_11.r, hq_e_36]); have h5 : nxF (fv 0) n26 k25_3 = k25_334 := h6.symm.trans q_339.eq; exact ⟨k25_334, 2, 0, 0, Or.inr ⟨k25_334, by rw [← h5]; exact (Or.inr (Or.inl ⟨by omega, by omega, rfl, rfl, by omega⟩) : whtR (fv 0) n26 k25_3 0 (nxF (fv 0) n26 k25_3) 2), Or.inl ⟨by omega, (q_353.1 (by omega)).1, rfl⟩⟩, fun h9 => by omega, fun _ => (q_353.1 (by omega)).2⟩), fun h9 => absurd h9 (by omega), by rw [ht]; exact hP, va_K.moved hW.alike hK, hD⟩, hS.F ht⟩) hS.2.2 dX9_test__122
          have he_342b : k25_334 ≤ e_341 ∧ e_341 ≤ n26 := ⟨he_342.1, he_342.2.1⟩
          refine lv_istore_n (lv' := [(3, .int (nI c_340)), (2, .int 2), (1, .int (nI c_9)), (0, .ref h0)]) hx hb dX9_test__100 rfl hl (by decide) rfl (fun ls hl => ?_)
          refine lv_iload_n hx hb dX9_test__101 rfl (lv_at hl 0 rfl) ?_
          refine lv_bipush (v := 9) hx hb dX9_test__102 (by decide) ?_
          refine lv_icmp_eq (tgt := 123) hx hb dX9_test__104 (by decide) (fun c_354 => ?_) (fun c_354 => ?_)
          · have d_355 := n_eq (a := c_340) (b := 9) (by omega) (by omega) c_354
            refine lv_aload_n hx hb dX9_test__123 rfl (lv_at hl 3 rfl) ?_
            refine lv_aload_n hx hb dX9_test__124 rfl (lv_at hl 3 rfl) ?_
            refine vp_callSi (W.runV (As := []) (rest := [.ref h0]) ⟨hx, hb, hml, hown, hts⟩ (m_wordEnd l D h0 ad cs (upd iv 25 (nI k25_334)) fv gv k25_334 n26  rfl h26 (by omega) (by omega)) (cwV 0 hts gX9_test__X9_wordEnd rfl rfl rfl (by decide +kernel) ⟨Nat.le_of_ble_eq_true rfl, Nat.le_of_ble_eq_true rfl⟩) ⟨fun a U g mk q => ⟨q.1, q.2.1, va_K.moved (u := U) (U := U.calling g mk a) (Vm.Alike.refl U.vm) q.2.2⟩, va_recv hK hP (ci := 9) (q0 := 0) rfl rfl, fun U hU hW => ⟨rfl, by rw [hU]; exact hP, va_K.moved hW.alike hK⟩⟩ rfl rfl hl.1 rfl (lv_room (Nat.le_of_ble_eq_true rfl)) dX9_test__125 ⟨Nat.le_of_ble_eq_true rfl, Nat.le_of_ble_eq_true rfl⟩) (fun r_356 k_357 => ?_)
            obtain ⟨e_358, rfl, he_359⟩ := k_357
            have hq_e_358 : e_358 = e_341 := he_359.uq he_342
            refine va_put (D := D) (ci := 9) (v := .int (nI e_358)) (ty := .int) (C := RX9) (T := TX9) (N := 44) hx hb hts hin9 tyX9 tyX9_ok nmX9 hown hK hP hD hS 0 rfl rfl 25 (by decide) (hts (.fieldLink RX9 87 "HoneyHouseModel" "at" "I") (List.mem_of_getElem? (i := 1) rfl)) (fun _ h9 => h9) rfl (tyX9_ok 25 (by decide)) rfl rfl (Nat.le_of_ble_eq_true rfl) dX9_test__128 (fun H locs hP hD hS => ?_)
            have hP : va_P D vwCl (mw h0 ad cs (upd iv 25 (nI e_358)) fv gv) H := hP
            have hD : va_D A (mw h0 ad cs (upd iv 25 (nI e_358)) fv gv) := hD
            refine lv_aload_n hx hb dX9_test__131 rfl (lv_at hl 3 rfl) ?_
            refine lv_sipush (v := 1000) hx hb dX9_test__132 (by decide) ?_
            have hFc := free_all hD hS hA
            refine va_calli (va_runV (As := [.int 1000]) (rest := []) ⟨hx, hb, hml, hown, hts⟩ (m_number l D h0 ad cs (upd iv 25 (nI e_358)) fv gv n21 e_358 n26 1000 H.size h21 rfl h26 (by omega) (by omega) (by omega) (by omega)) (cwV 1 hts gX9_test__X9_number rfl rfl rfl (by decide +kernel) ⟨Nat.le_of_ble_eq_true rfl, Nat.le_of_ble_eq_true rfl⟩) ⟨fun a U g mk q => by obtain ⟨q0, q1, qP, qK, qD⟩ := q; exact ⟨q0, q1, qP, va_K.moved (u := U) (U := U.calling g mk a) (Vm.Alike.refl U.vm) qK, qD⟩, va_recv hK hP (ci := 9) (q0 := 0) rfl rfl, fun U hU hW => ⟨rfl, by rw [hU], by rw [hU]; exact hP, va_K.moved hW.alike hK, hD.weaken (fun _ _ _ _ => trivial)⟩⟩ rfl rfl hl.1 rfl (lv_room (Nat.le_of_ble_eq_true rfl)) dX9_test__135 ⟨Nat.le_of_ble_eq_true rfl, Nat.le_of_ble_eq_true rfl⟩) hS (fun q _ h => hFc q h) hFc (fun r_360 u t H1 locs ht hvm w_361 hB hz1 hk1 hS => ?_)
            subst w_361
            obtain ⟨k21_362, p22_363, k25_364, q_365, q_366, q_367, q_368, q_369, q_370, hP1, hK1, hD1⟩ := hB
            replace q_369 : NUX ((fv 0)) n26 1000 (skB ((fv 0)) n26 e_358) k21_362 p22_363 k25_364 r_360 := q_369
            replace q_370 : k21_362 = 0 → p22_363 = (iv 22) := q_370
            rw [ht] at hP1
            have hK := va_K.moved hvm.symm hK1
            generalize H1 = H at hP1 hS ⊢
            have hP : va_P D vwCl (mw h0 ad cs (upd (upd (upd iv 21 (nI k21_362)) 22 p22_363) 25 (nI k25_364)) fv gv) H := hP1
            have hD : va_D A (mw h0 ad cs (upd (upd (upd iv 21 (nI k21_362)) 22 p22_363) 25 (nI k25_364)) fv gv) := hD1.weaken (fun _ _ _ h => hFc _ h)
            rcases q_368 with hp_371 | ⟨rfl, hg_373⟩
            · obtain ⟨P_376, hP_377, hnr_378⟩ := q_369.no (by omega)
              refine lv_istore (lv' := [(4, .int r_360), (3, .int (nI c_340)), (2, .int 2), (1, .int (nI c_9)), (0, .ref h0)]) hx hb dX9_test__138 hl (by decide) rfl (fun ls hl => ?_)
              refine lv_aload_n hx hb dX9_test__140 rfl (lv_at hl 4 rfl) ?_
              refine va_get (D := D) (ci := 9) (v := .int (nI k21_362)) (C := RX9) (T := TX9) (N := 44) hx hb hts hin9 hown hK hP 0 rfl rfl 21 (by decide) (hts (.fieldLink RX9 74 "HoneyHouseModel" "faultKind" "I") (List.mem_of_getElem? (i := 2) rfl)) (fun _ h9 => h9) rfl dX9_test__141 ?_
              refine lv_if_le (tgt := 148) hx hb dX9_test__144 (by decide) (fun c_379 => absurd c_379 (nI_nle (n := k21_362) (by omega) (by omega))) (fun c_379 => ?_)
              have hP : va_P D vwCl (mw h0 ad cs (upd (upd (upd (upd iv 21 (nI k21_362)) 22 p22_363) 25 (nI k25_364)) 30 (iv 30)) (uF fv 19 (fv 19)) gv) H := hP
              have hD : va_D A (mw h0 ad cs (upd (upd (upd (upd iv 21 (nI k21_362)) 22 p22_363) 25 (nI k25_364)) 30 (iv 30)) (uF fv 19 (fv 19)) gv) := hD
              have hP := hP
              rw [h30] at hP hD
              exact W.vret hx hb hr (fun t ht hW => ⟨⟨(), rfl, trivial, k21_362, p22_363, k25_364, n30, fv 19, by omega, by omega, by omega, Or.inl ⟨by omega, by omega, rfl⟩, (by rw [show skB (fv 0) n26 n25 = k25_3 from q_8.eq]; have h6 : skB (fv 0) n26 e_36 = nxF (fv 0) n26 k25_3 := (by rw [nxF, teF_1 (wdE_sp (by omega) hw_13).2, he_11.r, hq_e_36]); have h5 : nxF (fv 0) n26 k25_3 = k25_334 := h6.symm.trans q_339.eq; have h4 : skB (fv 0) n26 e_358 = nxF (fv 0) n26 k25_334 := (by rw [nxF, teF_1 (wdE_sp (by omega) hw_344).2, he_342.r, hq_e_358]); exact ⟨P_376, 2, c_340, 0, Or.inr ⟨k25_334, by rw [← h5]; exact (Or.inr (Or.inl ⟨by omega, by omega, rfl, rfl, by omega⟩) : whtR (fv 0) n26 k25_3 0 (nxF (fv 0) n26 k25_3) 2), Or.inr ⟨by omega, by omega, by rw [← h4]; exact hnr_378⟩⟩, fun h9 => by omega, fun _ => hP_377⟩), fun h9 => absurd h9 (by omega), by rw [ht]; exact hP, va_K.moved hW.alike hK, hD⟩, hS.F ht⟩) hS.2.2 dX9_test__147
            obtain ⟨v_374, hv_375, rfl, hnr_378⟩ := q_369.ok
            have pe_380 : p22_363 = iv 22 := q_370 rfl
            refine lv_istore (lv' := [(4, .int (nI v_374)), (3, .int (nI c_340)), (2, .int 2), (1, .int (nI c_9)), (0, .ref h0)]) hx hb dX9_test__138 hl (by decide) rfl (fun ls hl => ?_)
            refine lv_aload_n hx hb dX9_test__140 rfl (lv_at hl 4 rfl) ?_
            refine va_get (D := D) (ci := 9) (v := .int (nI 0)) (C := RX9) (T := TX9) (N := 44) hx hb hts hin9 hown hK hP 0 rfl rfl 21 (by decide) (hts (.fieldLink RX9 74 "HoneyHouseModel" "faultKind" "I") (List.mem_of_getElem? (i := 2) rfl)) (fun _ h9 => h9) rfl dX9_test__141 ?_
            refine lv_if_le (tgt := 148) hx hb dX9_test__144 (by decide) (fun c_381 => ?_) (fun c_381 => absurd (by decide) c_381)
            refine lv_aload_n hx hb dX9_test__148 rfl (lv_at hl 4 rfl) ?_
            refine lv_bipush (v := 13) hx hb dX9_test__149 (by decide) ?_
            have hFc := free_all hD hS hA
            refine va_callv (va_runV (As := [.int 13]) (rest := []) ⟨hx, hb, hml, hown, hts⟩ (m_add l D h0 ad cs (upd (upd (upd iv 21 (nI 0)) 22 p22_363) 25 (nI k25_364)) fv gv n14 n30 13 H.size h14 h30 (by omega) (by omega)) (cwV 1 hts gX9_test__X9_add rfl rfl rfl (by decide +kernel) ⟨Nat.le_of_ble_eq_true rfl, Nat.le_of_ble_eq_true rfl⟩) ⟨fun a U g mk q => by obtain ⟨q0, q1, qP, qK, qD⟩ := q; exact ⟨q0, q1, qP, va_K.moved (u := U) (U := U.calling g mk a) (Vm.Alike.refl U.vm) qK, qD⟩, va_recv hK hP (ci := 9) (q0 := 0) rfl rfl, fun U hU hW => ⟨rfl, by rw [hU], by rw [hU]; exact hP, va_K.moved hW.alike hK, hD.weaken (fun _ _ _ _ => trivial)⟩⟩ rfl rfl hl.1 rfl (lv_room (Nat.le_of_ble_eq_true rfl)) dX9_test__151 ⟨Nat.le_of_ble_eq_true rfl, Nat.le_of_ble_eq_true rfl⟩) hS (fun q _ h => hFc q h) hFc (fun u t H1 locs ht hvm w_383 hB hz1 hk1 hS => ?_)
            obtain ⟨f19_384, q_385, hP1, hK1, hD1⟩ := hB
            replace q_385 : f19_384 = upd ((fv 19)) (200 * n14 + n30) 13 := q_385
            rw [ht] at hP1
            have hK := va_K.moved hvm.symm hK1
            generalize H1 = H at hP1 hS ⊢
            have hP : va_P D vwCl (mw h0 ad cs (upd (upd (upd (upd iv 21 (nI 0)) 22 p22_363) 25 (nI k25_364)) 30 (nI (n30 + 1))) (uF fv 19 f19_384) gv) H := hP1
            have hD : va_D A (mw h0 ad cs (upd (upd (upd (upd iv 21 (nI 0)) 22 p22_363) 25 (nI k25_364)) 30 (nI (n30 + 1))) (uF fv 19 f19_384) gv) := hD1.weaken (fun _ _ _ h => hFc _ h)
            refine lv_aload_n hx hb dX9_test__154 rfl (lv_at hl 4 rfl) ?_
            refine lv_iload_n hx hb dX9_test__155 rfl (lv_at hl 2 rfl) ?_
            have hFc := free_all hD hS hA
            refine va_callv (va_runV (As := [.int 2]) (rest := []) ⟨hx, hb, hml, hown, hts⟩ (m_add l D h0 ad cs (upd (upd (upd (upd iv 21 (nI 0)) 22 p22_363) 25 (nI k25_364)) 30 (nI (n30 + 1))) (uF fv 19 f19_384) gv n14 (n30 + 1) 2 H.size h14 rfl (by omega) (by omega)) (cwV 1 hts gX9_test__X9_add rfl rfl rfl (by decide +kernel) ⟨Nat.le_of_ble_eq_true rfl, Nat.le_of_ble_eq_true rfl⟩) ⟨fun a U g mk q => by obtain ⟨q0, q1, qP, qK, qD⟩ := q; exact ⟨q0, q1, qP, va_K.moved (u := U) (U := U.calling g mk a) (Vm.Alike.refl U.vm) qK, qD⟩, va_recv hK hP (ci := 9) (q0 := 0) rfl rfl, fun U hU hW => ⟨rfl, by rw [hU], by rw [hU]; exact hP, va_K.moved hW.alike hK, hD.weaken (fun _ _ _ _ => trivial)⟩⟩ rfl rfl hl.1 rfl (lv_room (Nat.le_of_ble_eq_true rfl)) dX9_test__156 ⟨Nat.le_of_ble_eq_true rfl, Nat.le_of_ble_eq_true rfl⟩) hS (fun q _ h => hFc q h) hFc (fun u t H1 locs ht hvm w_387 hB hz1 hk1 hS => ?_)
            obtain ⟨f19_388, q_389, hP1, hK1, hD1⟩ := hB
            replace q_389 : f19_388 = upd ((f19_384)) (200 * n14 + (n30 + 1)) 2 := q_389
            rw [ht] at hP1
            have hK := va_K.moved hvm.symm hK1
            generalize H1 = H at hP1 hS ⊢
            have hP : va_P D vwCl (mw h0 ad cs (upd (upd (upd (upd iv 21 (nI 0)) 22 p22_363) 25 (nI k25_364)) 30 (nI ((n30 + 1) + 1))) (uF fv 19 f19_388) gv) H := hP1
            have hD : va_D A (mw h0 ad cs (upd (upd (upd (upd iv 21 (nI 0)) 22 p22_363) 25 (nI k25_364)) 30 (nI ((n30 + 1) + 1))) (uF fv 19 f19_388) gv) := hD1.weaken (fun _ _ _ h => hFc _ h)
            refine lv_aload_n hx hb dX9_test__159 rfl (lv_at hl 4 rfl) ?_
            refine lv_iload_n hx hb dX9_test__160 rfl (lv_at hl 1 rfl) ?_
            have hFc := free_all hD hS hA
            refine va_callv (va_runV (As := [.int (nI c_340)]) (rest := []) ⟨hx, hb, hml, hown, hts⟩ (m_add l D h0 ad cs (upd (upd (upd (upd iv 21 (nI 0)) 22 p22_363) 25 (nI k25_364)) 30 (nI ((n30 + 1) + 1))) (uF fv 19 f19_388) gv n14 ((n30 + 1) + 1) (nI c_340) H.size h14 rfl (by omega) (by omega)) (cwV 1 hts gX9_test__X9_add rfl rfl rfl (by decide +kernel) ⟨Nat.le_of_ble_eq_true rfl, Nat.le_of_ble_eq_true rfl⟩) ⟨fun a U g mk q => by obtain ⟨q0, q1, qP, qK, qD⟩ := q; exact ⟨q0, q1, qP, va_K.moved (u := U) (U := U.calling g mk a) (Vm.Alike.refl U.vm) qK, qD⟩, va_recv hK hP (ci := 9) (q0 := 0) rfl rfl, fun U hU hW => ⟨rfl, by rw [hU], by rw [hU]; exact hP, va_K.moved hW.alike hK, hD.weaken (fun _ _ _ _ => trivial)⟩⟩ rfl rfl hl.1 rfl (lv_room (Nat.le_of_ble_eq_true rfl)) dX9_test__161 ⟨Nat.le_of_ble_eq_true rfl, Nat.le_of_ble_eq_true rfl⟩) hS (fun q _ h => hFc q h) hFc (fun u t H1 locs ht hvm w_391 hB hz1 hk1 hS => ?_)
            obtain ⟨f19_392, q_393, hP1, hK1, hD1⟩ := hB
            replace q_393 : f19_392 = upd ((f19_388)) (200 * n14 + ((n30 + 1) + 1)) (nI c_340) := q_393
            rw [ht] at hP1
            have hK := va_K.moved hvm.symm hK1
            generalize H1 = H at hP1 hS ⊢
            have hP : va_P D vwCl (mw h0 ad cs (upd (upd (upd (upd iv 21 (nI 0)) 22 p22_363) 25 (nI k25_364)) 30 (nI (((n30 + 1) + 1) + 1))) (uF fv 19 f19_392) gv) H := hP1
            have hD : va_D A (mw h0 ad cs (upd (upd (upd (upd iv 21 (nI 0)) 22 p22_363) 25 (nI k25_364)) 30 (nI (((n30 + 1) + 1) + 1))) (uF fv 19 f19_392) gv) := hD1.weaken (fun _ _ _ h => hFc _ h)
            refine lv_aload_n hx hb dX9_test__164 rfl (lv_at hl 4 rfl) ?_
            refine lv_iload hx hb dX9_test__165 (lv_at hl 0 rfl) ?_
            have hFc := free_all hD hS hA
            refine va_callv (va_runV (As := [.int (nI v_374)]) (rest := []) ⟨hx, hb, hml, hown, hts⟩ (m_add l D h0 ad cs (upd (upd (upd (upd iv 21 (nI 0)) 22 p22_363) 25 (nI k25_364)) 30 (nI (((n30 + 1) + 1) + 1))) (uF fv 19 f19_392) gv n14 (((n30 + 1) + 1) + 1) (nI v_374) H.size h14 rfl (by omega) (by omega)) (cwV 1 hts gX9_test__X9_add rfl rfl rfl (by decide +kernel) ⟨Nat.le_of_ble_eq_true rfl, Nat.le_of_ble_eq_true rfl⟩) ⟨fun a U g mk q => by obtain ⟨q0, q1, qP, qK, qD⟩ := q; exact ⟨q0, q1, qP, va_K.moved (u := U) (U := U.calling g mk a) (Vm.Alike.refl U.vm) qK, qD⟩, va_recv hK hP (ci := 9) (q0 := 0) rfl rfl, fun U hU hW => ⟨rfl, by rw [hU], by rw [hU]; exact hP, va_K.moved hW.alike hK, hD.weaken (fun _ _ _ _ => trivial)⟩⟩ rfl rfl hl.1 rfl (lv_room (Nat.le_of_ble_eq_true rfl)) dX9_test__167 ⟨Nat.le_of_ble_eq_true rfl, Nat.le_of_ble_eq_true rfl⟩) hS (fun q _ h => hFc q h) hFc (fun u t H1 locs ht hvm w_395 hB hz1 hk1 hS => ?_)
            obtain ⟨f19_396, q_397, hP1, hK1, hD1⟩ := hB
            replace q_397 : f19_396 = upd ((f19_392)) (200 * n14 + (((n30 + 1) + 1) + 1)) (nI v_374) := q_397
            rw [ht] at hP1
            have hK := va_K.moved hvm.symm hK1
            generalize H1 = H at hP1 hS ⊢
            have hP : va_P D vwCl (mw h0 ad cs (upd (upd (upd (upd iv 21 (nI 0)) 22 p22_363) 25 (nI k25_364)) 30 (nI ((((n30 + 1) + 1) + 1) + 1))) (uF fv 19 f19_396) gv) H := hP1
            have hD : va_D A (mw h0 ad cs (upd (upd (upd (upd iv 21 (nI 0)) 22 p22_363) 25 (nI k25_364)) 30 (nI ((((n30 + 1) + 1) + 1) + 1))) (uF fv 19 f19_396) gv) := hD1.weaken (fun _ _ _ h => hFc _ h)
            have hP : va_P D vwCl (mw h0 ad cs (upd (upd (upd (upd iv 21 (nI 0)) 22 p22_363) 25 (nI k25_364)) 30 (nI ((((n30 + 1) + 1) + 1) + 1))) (uF fv 19 f19_396) gv) H := hP
            have hD : va_D A (mw h0 ad cs (upd (upd (upd (upd iv 21 (nI 0)) 22 p22_363) 25 (nI k25_364)) 30 (nI ((((n30 + 1) + 1) + 1) + 1))) (uF fv 19 f19_396) gv) := hD
            exact W.vret hx hb hr (fun t ht hW => ⟨⟨(), rfl, trivial, 0, p22_363, k25_364, (((n30 + 1) + 1) + 1) + 1, f19_396, by omega, by omega, by omega, Or.inr ⟨by omega, by omega, by omega, fun i h9 => by rw [q_397, up_ne (by omega), q_393, up_ne (by omega), q_389, up_ne (by omega), q_385, up_ne (by omega)], by rw [q_397, up_ne (by omega), q_393, up_ne (by omega), q_389, up_ne (by omega), q_385, up_eq], by rw [q_397, up_ne (by omega), q_393, up_ne (by omega), q_389, up_eq]; exact ⟨2, by omega, rfl⟩⟩, (by rw [show skB (fv 0) n26 n25 = k25_3 from q_8.eq]; have h6 : skB (fv 0) n26 e_36 = nxF (fv 0) n26 k25_3 := (by rw [nxF, teF_1 (wdE_sp (by omega) hw_13).2, he_11.r, hq_e_36]); have h5 : nxF (fv 0) n26 k25_3 = k25_334 := h6.symm.trans q_339.eq; have h4 : skB (fv 0) n26 e_358 = nxF (fv 0) n26 k25_334 := (by rw [nxF, teF_1 (wdE_sp (by omega) hw_344).2, he_342.r, hq_e_358]); exact ⟨skB (fv 0) n26 k25_364, 2, c_340, v_374, Or.inr ⟨k25_334, by rw [← h5]; exact (Or.inr (Or.inl ⟨by omega, by omega, rfl, rfl, by omega⟩) : whtR (fv 0) n26 k25_3 0 (nxF (fv 0) n26 k25_3) 2), Or.inr ⟨by omega, by omega, by rw [← h4]; exact hnr_378⟩⟩, fun _ => rfl, fun h9 => by omega⟩), fun _ => pe_380, by rw [ht]; exact hP, va_K.moved hW.alike hK, hD⟩, hS.F ht⟩) hS.2.2 dX9_test__170
          have d_398 := n_ne (a := c_340) (b := 9) (by omega) (by omega) c_354
          refine lv_iload_n hx hb dX9_test__107 rfl (lv_at hl 0 rfl) ?_
          refine lv_bipush (v := 10) hx hb dX9_test__108 (by decide) ?_
          refine lv_icmp_eq (tgt := 123) hx hb dX9_test__110 (by decide) (fun c_399 => ?_) (fun c_399 => ?_)
          · have d_400 := n_eq (a := c_340) (b := 10) (by omega) (by omega) c_399
            refine lv_aload_n hx hb dX9_test__123 rfl (lv_at hl 3 rfl) ?_
            refine lv_aload_n hx hb dX9_test__124 rfl (lv_at hl 3 rfl) ?_
            refine vp_callSi (W.runV (As := []) (rest := [.ref h0]) ⟨hx, hb, hml, hown, hts⟩ (m_wordEnd l D h0 ad cs (upd iv 25 (nI k25_334)) fv gv k25_334 n26  rfl h26 (by omega) (by omega)) (cwV 0 hts gX9_test__X9_wordEnd rfl rfl rfl (by decide +kernel) ⟨Nat.le_of_ble_eq_true rfl, Nat.le_of_ble_eq_true rfl⟩) ⟨fun a U g mk q => ⟨q.1, q.2.1, va_K.moved (u := U) (U := U.calling g mk a) (Vm.Alike.refl U.vm) q.2.2⟩, va_recv hK hP (ci := 9) (q0 := 0) rfl rfl, fun U hU hW => ⟨rfl, by rw [hU]; exact hP, va_K.moved hW.alike hK⟩⟩ rfl rfl hl.1 rfl (lv_room (Nat.le_of_ble_eq_true rfl)) dX9_test__125 ⟨Nat.le_of_ble_eq_true rfl, Nat.le_of_ble_eq_true rfl⟩) (fun r_401 k_402 => ?_)
            obtain ⟨e_403, rfl, he_404⟩ := k_402
            have hq_e_403 : e_403 = e_341 := he_404.uq he_342
            refine va_put (D := D) (ci := 9) (v := .int (nI e_403)) (ty := .int) (C := RX9) (T := TX9) (N := 44) hx hb hts hin9 tyX9 tyX9_ok nmX9 hown hK hP hD hS 0 rfl rfl 25 (by decide) (hts (.fieldLink RX9 87 "HoneyHouseModel" "at" "I") (List.mem_of_getElem? (i := 1) rfl)) (fun _ h9 => h9) rfl (tyX9_ok 25 (by decide)) rfl rfl (Nat.le_of_ble_eq_true rfl) dX9_test__128 (fun H locs hP hD hS => ?_)
            have hP : va_P D vwCl (mw h0 ad cs (upd iv 25 (nI e_403)) fv gv) H := hP
            have hD : va_D A (mw h0 ad cs (upd iv 25 (nI e_403)) fv gv) := hD
            refine lv_aload_n hx hb dX9_test__131 rfl (lv_at hl 3 rfl) ?_
            refine lv_sipush (v := 1000) hx hb dX9_test__132 (by decide) ?_
            have hFc := free_all hD hS hA
            refine va_calli (va_runV (As := [.int 1000]) (rest := []) ⟨hx, hb, hml, hown, hts⟩ (m_number l D h0 ad cs (upd iv 25 (nI e_403)) fv gv n21 e_403 n26 1000 H.size h21 rfl h26 (by omega) (by omega) (by omega) (by omega)) (cwV 1 hts gX9_test__X9_number rfl rfl rfl (by decide +kernel) ⟨Nat.le_of_ble_eq_true rfl, Nat.le_of_ble_eq_true rfl⟩) ⟨fun a U g mk q => by obtain ⟨q0, q1, qP, qK, qD⟩ := q; exact ⟨q0, q1, qP, va_K.moved (u := U) (U := U.calling g mk a) (Vm.Alike.refl U.vm) qK, qD⟩, va_recv hK hP (ci := 9) (q0 := 0) rfl rfl, fun U hU hW => ⟨rfl, by rw [hU], by rw [hU]; exact hP, va_K.moved hW.alike hK, hD.weaken (fun _ _ _ _ => trivial)⟩⟩ rfl rfl hl.1 rfl (lv_room (Nat.le_of_ble_eq_true rfl)) dX9_test__135 ⟨Nat.le_of_ble_eq_true rfl, Nat.le_of_ble_eq_true rfl⟩) hS (fun q _ h => hFc q h) hFc (fun r_405 u t H1 locs ht hvm w_406 hB hz1 hk1 hS => ?_)
            subst w_406
            obtain ⟨k21_407, p22_408, k25_409, q_410, q_411, q_412, q_413, q_414, q_415, hP1, hK1, hD1⟩ := hB
            replace q_414 : NUX ((fv 0)) n26 1000 (skB ((fv 0)) n26 e_403) k21_407 p22_408 k25_409 r_405 := q_414
            replace q_415 : k21_407 = 0 → p22_408 = (iv 22) := q_415
            rw [ht] at hP1
            have hK := va_K.moved hvm.symm hK1
            generalize H1 = H at hP1 hS ⊢
            have hP : va_P D vwCl (mw h0 ad cs (upd (upd (upd iv 21 (nI k21_407)) 22 p22_408) 25 (nI k25_409)) fv gv) H := hP1
            have hD : va_D A (mw h0 ad cs (upd (upd (upd iv 21 (nI k21_407)) 22 p22_408) 25 (nI k25_409)) fv gv) := hD1.weaken (fun _ _ _ h => hFc _ h)
            rcases q_413 with hp_416 | ⟨rfl, hg_418⟩
            · obtain ⟨P_421, hP_422, hnr_423⟩ := q_414.no (by omega)
              refine lv_istore (lv' := [(4, .int r_405), (3, .int (nI c_340)), (2, .int 2), (1, .int (nI c_9)), (0, .ref h0)]) hx hb dX9_test__138 hl (by decide) rfl (fun ls hl => ?_)
              refine lv_aload_n hx hb dX9_test__140 rfl (lv_at hl 4 rfl) ?_
              refine va_get (D := D) (ci := 9) (v := .int (nI k21_407)) (C := RX9) (T := TX9) (N := 44) hx hb hts hin9 hown hK hP 0 rfl rfl 21 (by decide) (hts (.fieldLink RX9 74 "HoneyHouseModel" "faultKind" "I") (List.mem_of_getElem? (i := 2) rfl)) (fun _ h9 => h9) rfl dX9_test__141 ?_
              refine lv_if_le (tgt := 148) hx hb dX9_test__144 (by decide) (fun c_424 => absurd c_424 (nI_nle (n := k21_407) (by omega) (by omega))) (fun c_424 => ?_)
              have hP : va_P D vwCl (mw h0 ad cs (upd (upd (upd (upd iv 21 (nI k21_407)) 22 p22_408) 25 (nI k25_409)) 30 (iv 30)) (uF fv 19 (fv 19)) gv) H := hP
              have hD : va_D A (mw h0 ad cs (upd (upd (upd (upd iv 21 (nI k21_407)) 22 p22_408) 25 (nI k25_409)) 30 (iv 30)) (uF fv 19 (fv 19)) gv) := hD
              have hP := hP
              rw [h30] at hP hD
              exact W.vret hx hb hr (fun t ht hW => ⟨⟨(), rfl, trivial, k21_407, p22_408, k25_409, n30, fv 19, by omega, by omega, by omega, Or.inl ⟨by omega, by omega, rfl⟩, (by rw [show skB (fv 0) n26 n25 = k25_3 from q_8.eq]; have h6 : skB (fv 0) n26 e_36 = nxF (fv 0) n26 k25_3 := (by rw [nxF, teF_1 (wdE_sp (by omega) hw_13).2, he_11.r, hq_e_36]); have h5 : nxF (fv 0) n26 k25_3 = k25_334 := h6.symm.trans q_339.eq; have h4 : skB (fv 0) n26 e_403 = nxF (fv 0) n26 k25_334 := (by rw [nxF, teF_1 (wdE_sp (by omega) hw_344).2, he_342.r, hq_e_403]); exact ⟨P_421, 2, c_340, 0, Or.inr ⟨k25_334, by rw [← h5]; exact (Or.inr (Or.inl ⟨by omega, by omega, rfl, rfl, by omega⟩) : whtR (fv 0) n26 k25_3 0 (nxF (fv 0) n26 k25_3) 2), Or.inr ⟨by omega, by omega, by rw [← h4]; exact hnr_423⟩⟩, fun h9 => by omega, fun _ => hP_422⟩), fun h9 => absurd h9 (by omega), by rw [ht]; exact hP, va_K.moved hW.alike hK, hD⟩, hS.F ht⟩) hS.2.2 dX9_test__147
            obtain ⟨v_419, hv_420, rfl, hnr_423⟩ := q_414.ok
            have pe_425 : p22_408 = iv 22 := q_415 rfl
            refine lv_istore (lv' := [(4, .int (nI v_419)), (3, .int (nI c_340)), (2, .int 2), (1, .int (nI c_9)), (0, .ref h0)]) hx hb dX9_test__138 hl (by decide) rfl (fun ls hl => ?_)
            refine lv_aload_n hx hb dX9_test__140 rfl (lv_at hl 4 rfl) ?_
            refine va_get (D := D) (ci := 9) (v := .int (nI 0)) (C := RX9) (T := TX9) (N := 44) hx hb hts hin9 hown hK hP 0 rfl rfl 21 (by decide) (hts (.fieldLink RX9 74 "HoneyHouseModel" "faultKind" "I") (List.mem_of_getElem? (i := 2) rfl)) (fun _ h9 => h9) rfl dX9_test__141 ?_
            refine lv_if_le (tgt := 148) hx hb dX9_test__144 (by decide) (fun c_426 => ?_) (fun c_426 => absurd (by decide) c_426)
            refine lv_aload_n hx hb dX9_test__148 rfl (lv_at hl 4 rfl) ?_
            refine lv_bipush (v := 13) hx hb dX9_test__149 (by decide) ?_
            have hFc := free_all hD hS hA
            refine va_callv (va_runV (As := [.int 13]) (rest := []) ⟨hx, hb, hml, hown, hts⟩ (m_add l D h0 ad cs (upd (upd (upd iv 21 (nI 0)) 22 p22_408) 25 (nI k25_409)) fv gv n14 n30 13 H.size h14 h30 (by omega) (by omega)) (cwV 1 hts gX9_test__X9_add rfl rfl rfl (by decide +kernel) ⟨Nat.le_of_ble_eq_true rfl, Nat.le_of_ble_eq_true rfl⟩) ⟨fun a U g mk q => by obtain ⟨q0, q1, qP, qK, qD⟩ := q; exact ⟨q0, q1, qP, va_K.moved (u := U) (U := U.calling g mk a) (Vm.Alike.refl U.vm) qK, qD⟩, va_recv hK hP (ci := 9) (q0 := 0) rfl rfl, fun U hU hW => ⟨rfl, by rw [hU], by rw [hU]; exact hP, va_K.moved hW.alike hK, hD.weaken (fun _ _ _ _ => trivial)⟩⟩ rfl rfl hl.1 rfl (lv_room (Nat.le_of_ble_eq_true rfl)) dX9_test__151 ⟨Nat.le_of_ble_eq_true rfl, Nat.le_of_ble_eq_true rfl⟩) hS (fun q _ h => hFc q h) hFc (fun u t H1 locs ht hvm w_428 hB hz1 hk1 hS => ?_)
            obtain ⟨f19_429, q_430, hP1, hK1, hD1⟩ := hB
            replace q_430 : f19_429 = upd ((fv 19)) (200 * n14 + n30) 13 := q_430
            rw [ht] at hP1
            have hK := va_K.moved hvm.symm hK1
            generalize H1 = H at hP1 hS ⊢
            have hP : va_P D vwCl (mw h0 ad cs (upd (upd (upd (upd iv 21 (nI 0)) 22 p22_408) 25 (nI k25_409)) 30 (nI (n30 + 1))) (uF fv 19 f19_429) gv) H := hP1
            have hD : va_D A (mw h0 ad cs (upd (upd (upd (upd iv 21 (nI 0)) 22 p22_408) 25 (nI k25_409)) 30 (nI (n30 + 1))) (uF fv 19 f19_429) gv) := hD1.weaken (fun _ _ _ h => hFc _ h)
            refine lv_aload_n hx hb dX9_test__154 rfl (lv_at hl 4 rfl) ?_
            refine lv_iload_n hx hb dX9_test__155 rfl (lv_at hl 2 rfl) ?_
            have hFc := free_all hD hS hA
            refine va_callv (va_runV (As := [.int 2]) (rest := []) ⟨hx, hb, hml, hown, hts⟩ (m_add l D h0 ad cs (upd (upd (upd (upd iv 21 (nI 0)) 22 p22_408) 25 (nI k25_409)) 30 (nI (n30 + 1))) (uF fv 19 f19_429) gv n14 (n30 + 1) 2 H.size h14 rfl (by omega) (by omega)) (cwV 1 hts gX9_test__X9_add rfl rfl rfl (by decide +kernel) ⟨Nat.le_of_ble_eq_true rfl, Nat.le_of_ble_eq_true rfl⟩) ⟨fun a U g mk q => by obtain ⟨q0, q1, qP, qK, qD⟩ := q; exact ⟨q0, q1, qP, va_K.moved (u := U) (U := U.calling g mk a) (Vm.Alike.refl U.vm) qK, qD⟩, va_recv hK hP (ci := 9) (q0 := 0) rfl rfl, fun U hU hW => ⟨rfl, by rw [hU], by rw [hU]; exact hP, va_K.moved hW.alike hK, hD.weaken (fun _ _ _ _ => trivial)⟩⟩ rfl rfl hl.1 rfl (lv_room (Nat.le_of_ble_eq_true rfl)) dX9_test__156 ⟨Nat.le_of_ble_eq_true rfl, Nat.le_of_ble_eq_true rfl⟩) hS (fun q _ h => hFc q h) hFc (fun u t H1 locs ht hvm w_432 hB hz1 hk1 hS => ?_)
            obtain ⟨f19_433, q_434, hP1, hK1, hD1⟩ := hB
            replace q_434 : f19_433 = upd ((f19_429)) (200 * n14 + (n30 + 1)) 2 := q_434
            rw [ht] at hP1
            have hK := va_K.moved hvm.symm hK1
            generalize H1 = H at hP1 hS ⊢
            have hP : va_P D vwCl (mw h0 ad cs (upd (upd (upd (upd iv 21 (nI 0)) 22 p22_408) 25 (nI k25_409)) 30 (nI ((n30 + 1) + 1))) (uF fv 19 f19_433) gv) H := hP1
            have hD : va_D A (mw h0 ad cs (upd (upd (upd (upd iv 21 (nI 0)) 22 p22_408) 25 (nI k25_409)) 30 (nI ((n30 + 1) + 1))) (uF fv 19 f19_433) gv) := hD1.weaken (fun _ _ _ h => hFc _ h)
            refine lv_aload_n hx hb dX9_test__159 rfl (lv_at hl 4 rfl) ?_
            refine lv_iload_n hx hb dX9_test__160 rfl (lv_at hl 1 rfl) ?_
            have hFc := free_all hD hS hA
            refine va_callv (va_runV (As := [.int (nI c_340)]) (rest := []) ⟨hx, hb, hml, hown, hts⟩ (m_add l D h0 ad cs (upd (upd (upd (upd iv 21 (nI 0)) 22 p22_408) 25 (nI k25_409)) 30 (nI ((n30 + 1) + 1))) (uF fv 19 f19_433) gv n14 ((n30 + 1) + 1) (nI c_340) H.size h14 rfl (by omega) (by omega)) (cwV 1 hts gX9_test__X9_add rfl rfl rfl (by decide +kernel) ⟨Nat.le_of_ble_eq_true rfl, Nat.le_of_ble_eq_true rfl⟩) ⟨fun a U g mk q => by obtain ⟨q0, q1, qP, qK, qD⟩ := q; exact ⟨q0, q1, qP, va_K.moved (u := U) (U := U.calling g mk a) (Vm.Alike.refl U.vm) qK, qD⟩, va_recv hK hP (ci := 9) (q0 := 0) rfl rfl, fun U hU hW => ⟨rfl, by rw [hU], by rw [hU]; exact hP, va_K.moved hW.alike hK, hD.weaken (fun _ _ _ _ => trivial)⟩⟩ rfl rfl hl.1 rfl (lv_room (Nat.le_of_ble_eq_true rfl)) dX9_test__161 ⟨Nat.le_of_ble_eq_true rfl, Nat.le_of_ble_eq_true rfl⟩) hS (fun q _ h => hFc q h) hFc (fun u t H1 locs ht hvm w_436 hB hz1 hk1 hS => ?_)
            obtain ⟨f19_437, q_438, hP1, hK1, hD1⟩ := hB
            replace q_438 : f19_437 = upd ((f19_433)) (200 * n14 + ((n30 + 1) + 1)) (nI c_340) := q_438
            rw [ht] at hP1
            have hK := va_K.moved hvm.symm hK1
            generalize H1 = H at hP1 hS ⊢
            have hP : va_P D vwCl (mw h0 ad cs (upd (upd (upd (upd iv 21 (nI 0)) 22 p22_408) 25 (nI k25_409)) 30 (nI (((n30 + 1) + 1) + 1))) (uF fv 19 f19_437) gv) H := hP1
            have hD : va_D A (mw h0 ad cs (upd (upd (upd (upd iv 21 (nI 0)) 22 p22_408) 25 (nI k25_409)) 30 (nI (((n30 + 1) + 1) + 1))) (uF fv 19 f19_437) gv) := hD1.weaken (fun _ _ _ h => hFc _ h)
            refine lv_aload_n hx hb dX9_test__164 rfl (lv_at hl 4 rfl) ?_
            refine lv_iload hx hb dX9_test__165 (lv_at hl 0 rfl) ?_
            have hFc := free_all hD hS hA
            refine va_callv (va_runV (As := [.int (nI v_419)]) (rest := []) ⟨hx, hb, hml, hown, hts⟩ (m_add l D h0 ad cs (upd (upd (upd (upd iv 21 (nI 0)) 22 p22_408) 25 (nI k25_409)) 30 (nI (((n30 + 1) + 1) + 1))) (uF fv 19 f19_437) gv n14 (((n30 + 1) + 1) + 1) (nI v_419) H.size h14 rfl (by omega) (by omega)) (cwV 1 hts gX9_test__X9_add rfl rfl rfl (by decide +kernel) ⟨Nat.le_of_ble_eq_true rfl, Nat.le_of_ble_eq_true rfl⟩) ⟨fun a U g mk q => by obtain ⟨q0, q1, qP, qK, qD⟩ := q; exact ⟨q0, q1, qP, va_K.moved (u := U) (U := U.calling g mk a) (Vm.Alike.refl U.vm) qK, qD⟩, va_recv hK hP (ci := 9) (q0 := 0) rfl rfl, fun U hU hW => ⟨rfl, by rw [hU], by rw [hU]; exact hP, va_K.moved hW.alike hK, hD.weaken (fun _ _ _ _ => trivial)⟩⟩ rfl rfl hl.1 rfl (lv_room (Nat.le_of_ble_eq_true rfl)) dX9_test__167 ⟨Nat.le_of_ble_eq_true rfl, Nat.le_of_ble_eq_true rfl⟩) hS (fun q _ h => hFc q h) hFc (fun u t H1 locs ht hvm w_440 hB hz1 hk1 hS => ?_)
            obtain ⟨f19_441, q_442, hP1, hK1, hD1⟩ := hB
            replace q_442 : f19_441 = upd ((f19_437)) (200 * n14 + (((n30 + 1) + 1) + 1)) (nI v_419) := q_442
            rw [ht] at hP1
            have hK := va_K.moved hvm.symm hK1
            generalize H1 = H at hP1 hS ⊢
            have hP : va_P D vwCl (mw h0 ad cs (upd (upd (upd (upd iv 21 (nI 0)) 22 p22_408) 25 (nI k25_409)) 30 (nI ((((n30 + 1) + 1) + 1) + 1))) (uF fv 19 f19_441) gv) H := hP1
            have hD : va_D A (mw h0 ad cs (upd (upd (upd (upd iv 21 (nI 0)) 22 p22_408) 25 (nI k25_409)) 30 (nI ((((n30 + 1) + 1) + 1) + 1))) (uF fv 19 f19_441) gv) := hD1.weaken (fun _ _ _ h => hFc _ h)
            have hP : va_P D vwCl (mw h0 ad cs (upd (upd (upd (upd iv 21 (nI 0)) 22 p22_408) 25 (nI k25_409)) 30 (nI ((((n30 + 1) + 1) + 1) + 1))) (uF fv 19 f19_441) gv) H := hP
            have hD : va_D A (mw h0 ad cs (upd (upd (upd (upd iv 21 (nI 0)) 22 p22_408) 25 (nI k25_409)) 30 (nI ((((n30 + 1) + 1) + 1) + 1))) (uF fv 19 f19_441) gv) := hD
            exact W.vret hx hb hr (fun t ht hW => ⟨⟨(), rfl, trivial, 0, p22_408, k25_409, (((n30 + 1) + 1) + 1) + 1, f19_441, by omega, by omega, by omega, Or.inr ⟨by omega, by omega, by omega, fun i h9 => by rw [q_442, up_ne (by omega), q_438, up_ne (by omega), q_434, up_ne (by omega), q_430, up_ne (by omega)], by rw [q_442, up_ne (by omega), q_438, up_ne (by omega), q_434, up_ne (by omega), q_430, up_eq], by rw [q_442, up_ne (by omega), q_438, up_ne (by omega), q_434, up_eq]; exact ⟨2, by omega, rfl⟩⟩, (by rw [show skB (fv 0) n26 n25 = k25_3 from q_8.eq]; have h6 : skB (fv 0) n26 e_36 = nxF (fv 0) n26 k25_3 := (by rw [nxF, teF_1 (wdE_sp (by omega) hw_13).2, he_11.r, hq_e_36]); have h5 : nxF (fv 0) n26 k25_3 = k25_334 := h6.symm.trans q_339.eq; have h4 : skB (fv 0) n26 e_403 = nxF (fv 0) n26 k25_334 := (by rw [nxF, teF_1 (wdE_sp (by omega) hw_344).2, he_342.r, hq_e_403]); exact ⟨skB (fv 0) n26 k25_409, 2, c_340, v_419, Or.inr ⟨k25_334, by rw [← h5]; exact (Or.inr (Or.inl ⟨by omega, by omega, rfl, rfl, by omega⟩) : whtR (fv 0) n26 k25_3 0 (nxF (fv 0) n26 k25_3) 2), Or.inr ⟨by omega, by omega, by rw [← h4]; exact hnr_423⟩⟩, fun _ => rfl, fun h9 => by omega⟩), fun _ => pe_425, by rw [ht]; exact hP, va_K.moved hW.alike hK, hD⟩, hS.F ht⟩) hS.2.2 dX9_test__170
          have d_443 := n_ne (a := c_340) (b := 10) (by omega) (by omega) c_399
          refine lv_aload_n hx hb dX9_test__113 rfl (lv_at hl 3 rfl) ?_
          refine lv_iconst (v := 1) hx hb dX9_test__114 (by decide) ?_
          refine lv_aload_n hx hb dX9_test__115 rfl (lv_at hl 3 rfl) ?_
          refine va_get (D := D) (ci := 9) (v := .int (nI k25_334)) (C := RX9) (T := TX9) (N := 44) hx hb hts hin9 hown hK hP 0 rfl rfl 25 (by decide) (hts (.fieldLink RX9 87 "HoneyHouseModel" "at" "I") (List.mem_of_getElem? (i := 1) rfl)) (fun _ h9 => h9) rfl dX9_test__116 ?_
          have hFc := free_all hD hS hA
          refine va_callv (va_runV (As := [.int 1, .int (nI k25_334)]) (rest := []) ⟨hx, hb, hml, hown, hts⟩ (m_blame l D h0 ad cs (upd iv 25 (nI k25_334)) fv gv n21 1 (nI k25_334) H.size h21 (by omega) (by omega)) (cwV 2 hts gX9_test__X9_blame rfl rfl rfl (by decide +kernel) ⟨Nat.le_of_ble_eq_true rfl, Nat.le_of_ble_eq_true rfl⟩) ⟨fun a U g mk q => by obtain ⟨q0, q1, qP, qK, qD⟩ := q; exact ⟨q0, q1, qP, va_K.moved (u := U) (U := U.calling g mk a) (Vm.Alike.refl U.vm) qK, qD⟩, va_recv hK hP (ci := 9) (q0 := 0) rfl rfl, fun U hU hW => ⟨rfl, by rw [hU], by rw [hU]; exact hP, va_K.moved hW.alike hK, hD.weaken (fun _ _ _ _ => trivial)⟩⟩ rfl rfl hl.1 rfl (lv_room (Nat.le_of_ble_eq_true rfl)) dX9_test__119 ⟨Nat.le_of_ble_eq_true rfl, Nat.le_of_ble_eq_true rfl⟩) hS (fun q _ h => hFc q h) hFc (fun u t H1 locs ht hvm w_445 hB hz1 hk1 hS => ?_)
          obtain ⟨k21_446, p22_447, q_448, q_449, q_450, hP1, hK1, hD1⟩ := hB
          replace q_450 : (n21 = 0 → k21_446 = 1 ∧ p22_447 = (nI k25_334)) ∧ (¬ n21 = 0 → k21_446 = n21 ∧ p22_447 = (iv 22)) := q_450
          rw [ht] at hP1
          have hK := va_K.moved hvm.symm hK1
          generalize H1 = H at hP1 hS ⊢
          have hP : va_P D vwCl (mw h0 ad cs (upd (upd (upd iv 21 (nI k21_446)) 22 p22_447) 25 (nI k25_334)) fv gv) H := hP1
          have hD : va_D A (mw h0 ad cs (upd (upd (upd iv 21 (nI k21_446)) 22 p22_447) 25 (nI k25_334)) fv gv) := hD1.weaken (fun _ _ _ h => hFc _ h)
          have hP : va_P D vwCl (mw h0 ad cs (upd (upd (upd (upd iv 21 (nI k21_446)) 22 p22_447) 25 (nI k25_334)) 30 (iv 30)) (uF fv 19 (fv 19)) gv) H := hP
          have hD : va_D A (mw h0 ad cs (upd (upd (upd (upd iv 21 (nI k21_446)) 22 p22_447) 25 (nI k25_334)) 30 (iv 30)) (uF fv 19 (fv 19)) gv) := hD
          have hP := hP
          rw [h30] at hP hD
          exact W.vret hx hb hr (fun t ht hW => ⟨⟨(), rfl, trivial, k21_446, p22_447, k25_334, n30, fv 19, by omega, by omega, by omega, Or.inl ⟨by omega, by omega, rfl⟩, (by rw [show skB (fv 0) n26 n25 = k25_3 from q_8.eq]; have h6 : skB (fv 0) n26 e_36 = nxF (fv 0) n26 k25_3 := (by rw [nxF, teF_1 (wdE_sp (by omega) hw_13).2, he_11.r, hq_e_36]); have h5 : nxF (fv 0) n26 k25_3 = k25_334 := h6.symm.trans q_339.eq; exact ⟨k25_334, 2, 0, 0, Or.inr ⟨k25_334, by rw [← h5]; exact (Or.inr (Or.inl ⟨by omega, by omega, rfl, rfl, by omega⟩) : whtR (fv 0) n26 k25_3 0 (nxF (fv 0) n26 k25_3) 2), Or.inl ⟨by omega, (q_450.1 (by omega)).1, rfl⟩⟩, fun h9 => by omega, fun _ => (q_450.1 (by omega)).2⟩), fun h9 => absurd h9 (by omega), by rw [ht]; exact hP, va_K.moved hW.alike hK, hD⟩, hS.F ht⟩) hS.2.2 dX9_test__122
        have d_451 := n_nle (a := n21) (b := 0) (by omega) (by omega) c_330
        have hP : va_P D vwCl (mw h0 ad cs (upd (upd (upd (upd iv 21 (iv 21)) 22 (iv 22)) 25 (nI e_36)) 30 (iv 30)) (uF fv 19 (fv 19)) gv) H := hP
        have hD : va_D A (mw h0 ad cs (upd (upd (upd (upd iv 21 (iv 21)) 22 (iv 22)) 25 (nI e_36)) 30 (iv 30)) (uF fv 19 (fv 19)) gv) := hD
        have hP := hP
        have hP := hP
        rw [h21, h30] at hP hD
        exact W.vret hx hb hr (fun t ht hW => ⟨⟨(), rfl, trivial, n21, iv 22, e_36, n30, fv 19, by omega, by omega, by omega, Or.inl ⟨by omega, by omega, rfl⟩, (by exfalso; omega), fun h9 => absurd h9 (by omega), by rw [ht]; exact hP, va_K.moved hW.alike hK, hD⟩, hS.F ht⟩) hS.2.2 dX9_test__95
      have d_452 := n_eq (a := c_9) (b := 5) (by omega) (by omega) c_40
      have hwc : wdE (fv 0) n26 k25_3 = 5 := by omega
      refine lv_iconst (v := 1) hx hb dX9_test__48 (by decide) ?_
      refine lv_goto (tgt := 87) hx hb dX9_test__49 (by decide) ?_
      refine lv_istore_n (lv' := [(2, .int 1), (1, .int (nI c_9)), (0, .ref h0)]) hx hb dX9_test__87 rfl hl (by decide) rfl (fun ls hl => ?_)
      refine lv_aload_n hx hb dX9_test__88 rfl (lv_at hl 2 rfl) ?_
      refine va_get (D := D) (ci := 9) (v := .int (iv 21)) (C := RX9) (T := TX9) (N := 44) hx hb hts hin9 hown hK hP 0 rfl rfl 21 (by decide) (hts (.fieldLink RX9 74 "HoneyHouseModel" "faultKind" "I") (List.mem_of_getElem? (i := 2) rfl)) (fun _ h9 => h9) rfl dX9_test__89 ?_
      refine tp_i (y := nI n21) (h21) ?_
      refine lv_if_le (tgt := 96) hx hb dX9_test__92 (by decide) (fun c_453 => ?_) (fun c_453 => ?_)
      · have d_454 := n_le (a := n21) (b := 0) (by omega) (by omega) c_453
        refine lv_aload_n hx hb dX9_test__96 rfl (lv_at hl 2 rfl) ?_
        have hFc := free_all hD hS hA
        refine va_calli (va_runV (As := []) (rest := []) ⟨hx, hb, hml, hown, hts⟩ (m_peek l D h0 ad cs (upd iv 25 (nI e_36)) fv gv e_36 n26  H.size rfl h26 (by omega) (by omega)) (cwV 0 hts gX9_test__X9_peek rfl rfl rfl (by decide +kernel) ⟨Nat.le_of_ble_eq_true rfl, Nat.le_of_ble_eq_true rfl⟩) ⟨fun a U g mk q => by obtain ⟨q0, q1, qP, qK, qD⟩ := q; exact ⟨q0, q1, qP, va_K.moved (u := U) (U := U.calling g mk a) (Vm.Alike.refl U.vm) qK, qD⟩, va_recv hK hP (ci := 9) (q0 := 0) rfl rfl, fun U hU hW => ⟨rfl, by rw [hU], by rw [hU]; exact hP, va_K.moved hW.alike hK, hD.weaken (fun _ _ _ _ => trivial)⟩⟩ rfl rfl hl.1 rfl (lv_room (Nat.le_of_ble_eq_true rfl)) dX9_test__97 ⟨Nat.le_of_ble_eq_true rfl, Nat.le_of_ble_eq_true rfl⟩) hS (fun q _ h => hFc q h) hFc (fun r_455 u t H1 locs ht hvm w_456 hB hz1 hk1 hS => ?_)
        subst w_456
        obtain ⟨k25_457, q_458, q_459, q_460, q_461, q_462, hP1, hK1, hD1⟩ := hB
        replace q_460 : (e_36 = n26 ∨ ¬ blk ((fv 0) e_36)) → k25_457 = e_36 := q_460
        replace q_461 : PKD ((fv 0)) n26 k25_457 r_455 := q_461
        replace q_462 : isRn blk ((fv 0)) n26 e_36 k25_457 := q_462
        rw [ht] at hP1
        have hK := va_K.moved hvm.symm hK1
        generalize H1 = H at hP1 hS ⊢
        have hP : va_P D vwCl (mw h0 ad cs (upd iv 25 (nI k25_457)) fv gv) H := hP1
        have hD : va_D A (mw h0 ad cs (upd iv 25 (nI k25_457)) fv gv) := hD1.weaken (fun _ _ _ h => hFc _ h)
        rcases q_461 with ⟨rfl, hw_467⟩ | ⟨c_463, e_464, rfl, he_465, hc_466, hw_467⟩
        · refine lv_istore_n (lv' := [(3, .int (-1)), (2, .int 1), (1, .int (nI c_9)), (0, .ref h0)]) hx hb dX9_test__100 rfl hl (by decide) rfl (fun ls hl => ?_)
          refine lv_iload_n hx hb dX9_test__101 rfl (lv_at hl 0 rfl) ?_
          refine lv_bipush (v := 9) hx hb dX9_test__102 (by decide) ?_
          refine lv_icmp_eq (tgt := 123) hx hb dX9_test__104 (by decide) (fun c_468 => absurd c_468 (by decide)) (fun c_468 => ?_)
          refine lv_iload_n hx hb dX9_test__107 rfl (lv_at hl 0 rfl) ?_
          refine lv_bipush (v := 10) hx hb dX9_test__108 (by decide) ?_
          refine lv_icmp_eq (tgt := 123) hx hb dX9_test__110 (by decide) (fun c_469 => absurd c_469 (by decide)) (fun c_469 => ?_)
          refine lv_aload_n hx hb dX9_test__113 rfl (lv_at hl 3 rfl) ?_
          refine lv_iconst (v := 1) hx hb dX9_test__114 (by decide) ?_
          refine lv_aload_n hx hb dX9_test__115 rfl (lv_at hl 3 rfl) ?_
          refine va_get (D := D) (ci := 9) (v := .int (nI k25_457)) (C := RX9) (T := TX9) (N := 44) hx hb hts hin9 hown hK hP 0 rfl rfl 25 (by decide) (hts (.fieldLink RX9 87 "HoneyHouseModel" "at" "I") (List.mem_of_getElem? (i := 1) rfl)) (fun _ h9 => h9) rfl dX9_test__116 ?_
          have hFc := free_all hD hS hA
          refine va_callv (va_runV (As := [.int 1, .int (nI k25_457)]) (rest := []) ⟨hx, hb, hml, hown, hts⟩ (m_blame l D h0 ad cs (upd iv 25 (nI k25_457)) fv gv n21 1 (nI k25_457) H.size h21 (by omega) (by omega)) (cwV 2 hts gX9_test__X9_blame rfl rfl rfl (by decide +kernel) ⟨Nat.le_of_ble_eq_true rfl, Nat.le_of_ble_eq_true rfl⟩) ⟨fun a U g mk q => by obtain ⟨q0, q1, qP, qK, qD⟩ := q; exact ⟨q0, q1, qP, va_K.moved (u := U) (U := U.calling g mk a) (Vm.Alike.refl U.vm) qK, qD⟩, va_recv hK hP (ci := 9) (q0 := 0) rfl rfl, fun U hU hW => ⟨rfl, by rw [hU], by rw [hU]; exact hP, va_K.moved hW.alike hK, hD.weaken (fun _ _ _ _ => trivial)⟩⟩ rfl rfl hl.1 rfl (lv_room (Nat.le_of_ble_eq_true rfl)) dX9_test__119 ⟨Nat.le_of_ble_eq_true rfl, Nat.le_of_ble_eq_true rfl⟩) hS (fun q _ h => hFc q h) hFc (fun u t H1 locs ht hvm w_471 hB hz1 hk1 hS => ?_)
          obtain ⟨k21_472, p22_473, q_474, q_475, q_476, hP1, hK1, hD1⟩ := hB
          replace q_476 : (n21 = 0 → k21_472 = 1 ∧ p22_473 = (nI k25_457)) ∧ (¬ n21 = 0 → k21_472 = n21 ∧ p22_473 = (iv 22)) := q_476
          rw [ht] at hP1
          have hK := va_K.moved hvm.symm hK1
          generalize H1 = H at hP1 hS ⊢
          have hP : va_P D vwCl (mw h0 ad cs (upd (upd (upd iv 21 (nI k21_472)) 22 p22_473) 25 (nI k25_457)) fv gv) H := hP1
          have hD : va_D A (mw h0 ad cs (upd (upd (upd iv 21 (nI k21_472)) 22 p22_473) 25 (nI k25_457)) fv gv) := hD1.weaken (fun _ _ _ h => hFc _ h)
          have hP : va_P D vwCl (mw h0 ad cs (upd (upd (upd (upd iv 21 (nI k21_472)) 22 p22_473) 25 (nI k25_457)) 30 (iv 30)) (uF fv 19 (fv 19)) gv) H := hP
          have hD : va_D A (mw h0 ad cs (upd (upd (upd (upd iv 21 (nI k21_472)) 22 p22_473) 25 (nI k25_457)) 30 (iv 30)) (uF fv 19 (fv 19)) gv) := hD
          have hP := hP
          rw [h30] at hP hD
          exact W.vret hx hb hr (fun t ht hW => ⟨⟨(), rfl, trivial, k21_472, p22_473, k25_457, n30, fv 19, by omega, by omega, by omega, Or.inl ⟨by omega, by omega, rfl⟩, (by rw [show skB (fv 0) n26 n25 = k25_3 from q_8.eq]; have h6 : skB (fv 0) n26 e_36 = nxF (fv 0) n26 k25_3 := (by rw [nxF, teF_1 (wdE_sp (by omega) hw_13).2, he_11.r, hq_e_36]); have h5 : nxF (fv 0) n26 k25_3 = k25_457 := h6.symm.trans q_462.eq; exact ⟨k25_457, 1, 0, 0, Or.inr ⟨k25_457, by rw [← h5]; exact (Or.inr (Or.inl ⟨by omega, by omega, rfl, rfl, by omega⟩) : whtR (fv 0) n26 k25_3 0 (nxF (fv 0) n26 k25_3) 1), Or.inl ⟨by omega, (q_476.1 (by omega)).1, rfl⟩⟩, fun h9 => by omega, fun _ => (q_476.1 (by omega)).2⟩), fun h9 => absurd h9 (by omega), by rw [ht]; exact hP, va_K.moved hW.alike hK, hD⟩, hS.F ht⟩) hS.2.2 dX9_test__122
        have he_465b : k25_457 ≤ e_464 ∧ e_464 ≤ n26 := ⟨he_465.1, he_465.2.1⟩
        refine lv_istore_n (lv' := [(3, .int (nI c_463)), (2, .int 1), (1, .int (nI c_9)), (0, .ref h0)]) hx hb dX9_test__100 rfl hl (by decide) rfl (fun ls hl => ?_)
        refine lv_iload_n hx hb dX9_test__101 rfl (lv_at hl 0 rfl) ?_
        refine lv_bipush (v := 9) hx hb dX9_test__102 (by decide) ?_
        refine lv_icmp_eq (tgt := 123) hx hb dX9_test__104 (by decide) (fun c_477 => ?_) (fun c_477 => ?_)
        · have d_478 := n_eq (a := c_463) (b := 9) (by omega) (by omega) c_477
          refine lv_aload_n hx hb dX9_test__123 rfl (lv_at hl 3 rfl) ?_
          refine lv_aload_n hx hb dX9_test__124 rfl (lv_at hl 3 rfl) ?_
          refine vp_callSi (W.runV (As := []) (rest := [.ref h0]) ⟨hx, hb, hml, hown, hts⟩ (m_wordEnd l D h0 ad cs (upd iv 25 (nI k25_457)) fv gv k25_457 n26  rfl h26 (by omega) (by omega)) (cwV 0 hts gX9_test__X9_wordEnd rfl rfl rfl (by decide +kernel) ⟨Nat.le_of_ble_eq_true rfl, Nat.le_of_ble_eq_true rfl⟩) ⟨fun a U g mk q => ⟨q.1, q.2.1, va_K.moved (u := U) (U := U.calling g mk a) (Vm.Alike.refl U.vm) q.2.2⟩, va_recv hK hP (ci := 9) (q0 := 0) rfl rfl, fun U hU hW => ⟨rfl, by rw [hU]; exact hP, va_K.moved hW.alike hK⟩⟩ rfl rfl hl.1 rfl (lv_room (Nat.le_of_ble_eq_true rfl)) dX9_test__125 ⟨Nat.le_of_ble_eq_true rfl, Nat.le_of_ble_eq_true rfl⟩) (fun r_479 k_480 => ?_)
          obtain ⟨e_481, rfl, he_482⟩ := k_480
          have hq_e_481 : e_481 = e_464 := he_482.uq he_465
          refine va_put (D := D) (ci := 9) (v := .int (nI e_481)) (ty := .int) (C := RX9) (T := TX9) (N := 44) hx hb hts hin9 tyX9 tyX9_ok nmX9 hown hK hP hD hS 0 rfl rfl 25 (by decide) (hts (.fieldLink RX9 87 "HoneyHouseModel" "at" "I") (List.mem_of_getElem? (i := 1) rfl)) (fun _ h9 => h9) rfl (tyX9_ok 25 (by decide)) rfl rfl (Nat.le_of_ble_eq_true rfl) dX9_test__128 (fun H locs hP hD hS => ?_)
          have hP : va_P D vwCl (mw h0 ad cs (upd iv 25 (nI e_481)) fv gv) H := hP
          have hD : va_D A (mw h0 ad cs (upd iv 25 (nI e_481)) fv gv) := hD
          refine lv_aload_n hx hb dX9_test__131 rfl (lv_at hl 3 rfl) ?_
          refine lv_sipush (v := 1000) hx hb dX9_test__132 (by decide) ?_
          have hFc := free_all hD hS hA
          refine va_calli (va_runV (As := [.int 1000]) (rest := []) ⟨hx, hb, hml, hown, hts⟩ (m_number l D h0 ad cs (upd iv 25 (nI e_481)) fv gv n21 e_481 n26 1000 H.size h21 rfl h26 (by omega) (by omega) (by omega) (by omega)) (cwV 1 hts gX9_test__X9_number rfl rfl rfl (by decide +kernel) ⟨Nat.le_of_ble_eq_true rfl, Nat.le_of_ble_eq_true rfl⟩) ⟨fun a U g mk q => by obtain ⟨q0, q1, qP, qK, qD⟩ := q; exact ⟨q0, q1, qP, va_K.moved (u := U) (U := U.calling g mk a) (Vm.Alike.refl U.vm) qK, qD⟩, va_recv hK hP (ci := 9) (q0 := 0) rfl rfl, fun U hU hW => ⟨rfl, by rw [hU], by rw [hU]; exact hP, va_K.moved hW.alike hK, hD.weaken (fun _ _ _ _ => trivial)⟩⟩ rfl rfl hl.1 rfl (lv_room (Nat.le_of_ble_eq_true rfl)) dX9_test__135 ⟨Nat.le_of_ble_eq_true rfl, Nat.le_of_ble_eq_true rfl⟩) hS (fun q _ h => hFc q h) hFc (fun r_483 u t H1 locs ht hvm w_484 hB hz1 hk1 hS => ?_)
          subst w_484
          obtain ⟨k21_485, p22_486, k25_487, q_488, q_489, q_490, q_491, q_492, q_493, hP1, hK1, hD1⟩ := hB
          replace q_492 : NUX ((fv 0)) n26 1000 (skB ((fv 0)) n26 e_481) k21_485 p22_486 k25_487 r_483 := q_492
          replace q_493 : k21_485 = 0 → p22_486 = (iv 22) := q_493
          rw [ht] at hP1
          have hK := va_K.moved hvm.symm hK1
          generalize H1 = H at hP1 hS ⊢
          have hP : va_P D vwCl (mw h0 ad cs (upd (upd (upd iv 21 (nI k21_485)) 22 p22_486) 25 (nI k25_487)) fv gv) H := hP1
          have hD : va_D A (mw h0 ad cs (upd (upd (upd iv 21 (nI k21_485)) 22 p22_486) 25 (nI k25_487)) fv gv) := hD1.weaken (fun _ _ _ h => hFc _ h)
          rcases q_491 with hp_494 | ⟨rfl, hg_496⟩
          · obtain ⟨P_499, hP_500, hnr_501⟩ := q_492.no (by omega)
            refine lv_istore (lv' := [(4, .int r_483), (3, .int (nI c_463)), (2, .int 1), (1, .int (nI c_9)), (0, .ref h0)]) hx hb dX9_test__138 hl (by decide) rfl (fun ls hl => ?_)
            refine lv_aload_n hx hb dX9_test__140 rfl (lv_at hl 4 rfl) ?_
            refine va_get (D := D) (ci := 9) (v := .int (nI k21_485)) (C := RX9) (T := TX9) (N := 44) hx hb hts hin9 hown hK hP 0 rfl rfl 21 (by decide) (hts (.fieldLink RX9 74 "HoneyHouseModel" "faultKind" "I") (List.mem_of_getElem? (i := 2) rfl)) (fun _ h9 => h9) rfl dX9_test__141 ?_
            refine lv_if_le (tgt := 148) hx hb dX9_test__144 (by decide) (fun c_502 => absurd c_502 (nI_nle (n := k21_485) (by omega) (by omega))) (fun c_502 => ?_)
            have hP : va_P D vwCl (mw h0 ad cs (upd (upd (upd (upd iv 21 (nI k21_485)) 22 p22_486) 25 (nI k25_487)) 30 (iv 30)) (uF fv 19 (fv 19)) gv) H := hP
            have hD : va_D A (mw h0 ad cs (upd (upd (upd (upd iv 21 (nI k21_485)) 22 p22_486) 25 (nI k25_487)) 30 (iv 30)) (uF fv 19 (fv 19)) gv) := hD
            have hP := hP
            rw [h30] at hP hD
            exact W.vret hx hb hr (fun t ht hW => ⟨⟨(), rfl, trivial, k21_485, p22_486, k25_487, n30, fv 19, by omega, by omega, by omega, Or.inl ⟨by omega, by omega, rfl⟩, (by rw [show skB (fv 0) n26 n25 = k25_3 from q_8.eq]; have h6 : skB (fv 0) n26 e_36 = nxF (fv 0) n26 k25_3 := (by rw [nxF, teF_1 (wdE_sp (by omega) hw_13).2, he_11.r, hq_e_36]); have h5 : nxF (fv 0) n26 k25_3 = k25_457 := h6.symm.trans q_462.eq; have h4 : skB (fv 0) n26 e_481 = nxF (fv 0) n26 k25_457 := (by rw [nxF, teF_1 (wdE_sp (by omega) hw_467).2, he_465.r, hq_e_481]); exact ⟨P_499, 1, c_463, 0, Or.inr ⟨k25_457, by rw [← h5]; exact (Or.inr (Or.inl ⟨by omega, by omega, rfl, rfl, by omega⟩) : whtR (fv 0) n26 k25_3 0 (nxF (fv 0) n26 k25_3) 1), Or.inr ⟨by omega, by omega, by rw [← h4]; exact hnr_501⟩⟩, fun h9 => by omega, fun _ => hP_500⟩), fun h9 => absurd h9 (by omega), by rw [ht]; exact hP, va_K.moved hW.alike hK, hD⟩, hS.F ht⟩) hS.2.2 dX9_test__147
          obtain ⟨v_497, hv_498, rfl, hnr_501⟩ := q_492.ok
          have pe_503 : p22_486 = iv 22 := q_493 rfl
          refine lv_istore (lv' := [(4, .int (nI v_497)), (3, .int (nI c_463)), (2, .int 1), (1, .int (nI c_9)), (0, .ref h0)]) hx hb dX9_test__138 hl (by decide) rfl (fun ls hl => ?_)
          refine lv_aload_n hx hb dX9_test__140 rfl (lv_at hl 4 rfl) ?_
          refine va_get (D := D) (ci := 9) (v := .int (nI 0)) (C := RX9) (T := TX9) (N := 44) hx hb hts hin9 hown hK hP 0 rfl rfl 21 (by decide) (hts (.fieldLink RX9 74 "HoneyHouseModel" "faultKind" "I") (List.mem_of_getElem? (i := 2) rfl)) (fun _ h9 => h9) rfl dX9_test__141 ?_
          refine lv_if_le (tgt := 148) hx hb dX9_test__144 (by decide) (fun c_504 => ?_) (fun c_504 => absurd (by decide) c_504)
          refine lv_aload_n hx hb dX9_test__148 rfl (lv_at hl 4 rfl) ?_
          refine lv_bipush (v := 13) hx hb dX9_test__149 (by decide) ?_
          have hFc := free_all hD hS hA
          refine va_callv (va_runV (As := [.int 13]) (rest := []) ⟨hx, hb, hml, hown, hts⟩ (m_add l D h0 ad cs (upd (upd (upd iv 21 (nI 0)) 22 p22_486) 25 (nI k25_487)) fv gv n14 n30 13 H.size h14 h30 (by omega) (by omega)) (cwV 1 hts gX9_test__X9_add rfl rfl rfl (by decide +kernel) ⟨Nat.le_of_ble_eq_true rfl, Nat.le_of_ble_eq_true rfl⟩) ⟨fun a U g mk q => by obtain ⟨q0, q1, qP, qK, qD⟩ := q; exact ⟨q0, q1, qP, va_K.moved (u := U) (U := U.calling g mk a) (Vm.Alike.refl U.vm) qK, qD⟩, va_recv hK hP (ci := 9) (q0 := 0) rfl rfl, fun U hU hW => ⟨rfl, by rw [hU], by rw [hU]; exact hP, va_K.moved hW.alike hK, hD.weaken (fun _ _ _ _ => trivial)⟩⟩ rfl rfl hl.1 rfl (lv_room (Nat.le_of_ble_eq_true rfl)) dX9_test__151 ⟨Nat.le_of_ble_eq_true rfl, Nat.le_of_ble_eq_true rfl⟩) hS (fun q _ h => hFc q h) hFc (fun u t H1 locs ht hvm w_506 hB hz1 hk1 hS => ?_)
          obtain ⟨f19_507, q_508, hP1, hK1, hD1⟩ := hB
          replace q_508 : f19_507 = upd ((fv 19)) (200 * n14 + n30) 13 := q_508
          rw [ht] at hP1
          have hK := va_K.moved hvm.symm hK1
          generalize H1 = H at hP1 hS ⊢
          have hP : va_P D vwCl (mw h0 ad cs (upd (upd (upd (upd iv 21 (nI 0)) 22 p22_486) 25 (nI k25_487)) 30 (nI (n30 + 1))) (uF fv 19 f19_507) gv) H := hP1
          have hD : va_D A (mw h0 ad cs (upd (upd (upd (upd iv 21 (nI 0)) 22 p22_486) 25 (nI k25_487)) 30 (nI (n30 + 1))) (uF fv 19 f19_507) gv) := hD1.weaken (fun _ _ _ h => hFc _ h)
          refine lv_aload_n hx hb dX9_test__154 rfl (lv_at hl 4 rfl) ?_
          refine lv_iload_n hx hb dX9_test__155 rfl (lv_at hl 2 rfl) ?_
          have hFc := free_all hD hS hA
          refine va_callv (va_runV (As := [.int 1]) (rest := []) ⟨hx, hb, hml, hown, hts⟩ (m_add l D h0 ad cs (upd (upd (upd (upd iv 21 (nI 0)) 22 p22_486) 25 (nI k25_487)) 30 (nI (n30 + 1))) (uF fv 19 f19_507) gv n14 (n30 + 1) 1 H.size h14 rfl (by omega) (by omega)) (cwV 1 hts gX9_test__X9_add rfl rfl rfl (by decide +kernel) ⟨Nat.le_of_ble_eq_true rfl, Nat.le_of_ble_eq_true rfl⟩) ⟨fun a U g mk q => by obtain ⟨q0, q1, qP, qK, qD⟩ := q; exact ⟨q0, q1, qP, va_K.moved (u := U) (U := U.calling g mk a) (Vm.Alike.refl U.vm) qK, qD⟩, va_recv hK hP (ci := 9) (q0 := 0) rfl rfl, fun U hU hW => ⟨rfl, by rw [hU], by rw [hU]; exact hP, va_K.moved hW.alike hK, hD.weaken (fun _ _ _ _ => trivial)⟩⟩ rfl rfl hl.1 rfl (lv_room (Nat.le_of_ble_eq_true rfl)) dX9_test__156 ⟨Nat.le_of_ble_eq_true rfl, Nat.le_of_ble_eq_true rfl⟩) hS (fun q _ h => hFc q h) hFc (fun u t H1 locs ht hvm w_510 hB hz1 hk1 hS => ?_)
          obtain ⟨f19_511, q_512, hP1, hK1, hD1⟩ := hB
          replace q_512 : f19_511 = upd ((f19_507)) (200 * n14 + (n30 + 1)) 1 := q_512
          rw [ht] at hP1
          have hK := va_K.moved hvm.symm hK1
          generalize H1 = H at hP1 hS ⊢
          have hP : va_P D vwCl (mw h0 ad cs (upd (upd (upd (upd iv 21 (nI 0)) 22 p22_486) 25 (nI k25_487)) 30 (nI ((n30 + 1) + 1))) (uF fv 19 f19_511) gv) H := hP1
          have hD : va_D A (mw h0 ad cs (upd (upd (upd (upd iv 21 (nI 0)) 22 p22_486) 25 (nI k25_487)) 30 (nI ((n30 + 1) + 1))) (uF fv 19 f19_511) gv) := hD1.weaken (fun _ _ _ h => hFc _ h)
          refine lv_aload_n hx hb dX9_test__159 rfl (lv_at hl 4 rfl) ?_
          refine lv_iload_n hx hb dX9_test__160 rfl (lv_at hl 1 rfl) ?_
          have hFc := free_all hD hS hA
          refine va_callv (va_runV (As := [.int (nI c_463)]) (rest := []) ⟨hx, hb, hml, hown, hts⟩ (m_add l D h0 ad cs (upd (upd (upd (upd iv 21 (nI 0)) 22 p22_486) 25 (nI k25_487)) 30 (nI ((n30 + 1) + 1))) (uF fv 19 f19_511) gv n14 ((n30 + 1) + 1) (nI c_463) H.size h14 rfl (by omega) (by omega)) (cwV 1 hts gX9_test__X9_add rfl rfl rfl (by decide +kernel) ⟨Nat.le_of_ble_eq_true rfl, Nat.le_of_ble_eq_true rfl⟩) ⟨fun a U g mk q => by obtain ⟨q0, q1, qP, qK, qD⟩ := q; exact ⟨q0, q1, qP, va_K.moved (u := U) (U := U.calling g mk a) (Vm.Alike.refl U.vm) qK, qD⟩, va_recv hK hP (ci := 9) (q0 := 0) rfl rfl, fun U hU hW => ⟨rfl, by rw [hU], by rw [hU]; exact hP, va_K.moved hW.alike hK, hD.weaken (fun _ _ _ _ => trivial)⟩⟩ rfl rfl hl.1 rfl (lv_room (Nat.le_of_ble_eq_true rfl)) dX9_test__161 ⟨Nat.le_of_ble_eq_true rfl, Nat.le_of_ble_eq_true rfl⟩) hS (fun q _ h => hFc q h) hFc (fun u t H1 locs ht hvm w_514 hB hz1 hk1 hS => ?_)
          obtain ⟨f19_515, q_516, hP1, hK1, hD1⟩ := hB
          replace q_516 : f19_515 = upd ((f19_511)) (200 * n14 + ((n30 + 1) + 1)) (nI c_463) := q_516
          rw [ht] at hP1
          have hK := va_K.moved hvm.symm hK1
          generalize H1 = H at hP1 hS ⊢
          have hP : va_P D vwCl (mw h0 ad cs (upd (upd (upd (upd iv 21 (nI 0)) 22 p22_486) 25 (nI k25_487)) 30 (nI (((n30 + 1) + 1) + 1))) (uF fv 19 f19_515) gv) H := hP1
          have hD : va_D A (mw h0 ad cs (upd (upd (upd (upd iv 21 (nI 0)) 22 p22_486) 25 (nI k25_487)) 30 (nI (((n30 + 1) + 1) + 1))) (uF fv 19 f19_515) gv) := hD1.weaken (fun _ _ _ h => hFc _ h)
          refine lv_aload_n hx hb dX9_test__164 rfl (lv_at hl 4 rfl) ?_
          refine lv_iload hx hb dX9_test__165 (lv_at hl 0 rfl) ?_
          have hFc := free_all hD hS hA
          refine va_callv (va_runV (As := [.int (nI v_497)]) (rest := []) ⟨hx, hb, hml, hown, hts⟩ (m_add l D h0 ad cs (upd (upd (upd (upd iv 21 (nI 0)) 22 p22_486) 25 (nI k25_487)) 30 (nI (((n30 + 1) + 1) + 1))) (uF fv 19 f19_515) gv n14 (((n30 + 1) + 1) + 1) (nI v_497) H.size h14 rfl (by omega) (by omega)) (cwV 1 hts gX9_test__X9_add rfl rfl rfl (by decide +kernel) ⟨Nat.le_of_ble_eq_true rfl, Nat.le_of_ble_eq_true rfl⟩) ⟨fun a U g mk q => by obtain ⟨q0, q1, qP, qK, qD⟩ := q; exact ⟨q0, q1, qP, va_K.moved (u := U) (U := U.calling g mk a) (Vm.Alike.refl U.vm) qK, qD⟩, va_recv hK hP (ci := 9) (q0 := 0) rfl rfl, fun U hU hW => ⟨rfl, by rw [hU], by rw [hU]; exact hP, va_K.moved hW.alike hK, hD.weaken (fun _ _ _ _ => trivial)⟩⟩ rfl rfl hl.1 rfl (lv_room (Nat.le_of_ble_eq_true rfl)) dX9_test__167 ⟨Nat.le_of_ble_eq_true rfl, Nat.le_of_ble_eq_true rfl⟩) hS (fun q _ h => hFc q h) hFc (fun u t H1 locs ht hvm w_518 hB hz1 hk1 hS => ?_)
          obtain ⟨f19_519, q_520, hP1, hK1, hD1⟩ := hB
          replace q_520 : f19_519 = upd ((f19_515)) (200 * n14 + (((n30 + 1) + 1) + 1)) (nI v_497) := q_520
          rw [ht] at hP1
          have hK := va_K.moved hvm.symm hK1
          generalize H1 = H at hP1 hS ⊢
          have hP : va_P D vwCl (mw h0 ad cs (upd (upd (upd (upd iv 21 (nI 0)) 22 p22_486) 25 (nI k25_487)) 30 (nI ((((n30 + 1) + 1) + 1) + 1))) (uF fv 19 f19_519) gv) H := hP1
          have hD : va_D A (mw h0 ad cs (upd (upd (upd (upd iv 21 (nI 0)) 22 p22_486) 25 (nI k25_487)) 30 (nI ((((n30 + 1) + 1) + 1) + 1))) (uF fv 19 f19_519) gv) := hD1.weaken (fun _ _ _ h => hFc _ h)
          have hP : va_P D vwCl (mw h0 ad cs (upd (upd (upd (upd iv 21 (nI 0)) 22 p22_486) 25 (nI k25_487)) 30 (nI ((((n30 + 1) + 1) + 1) + 1))) (uF fv 19 f19_519) gv) H := hP
          have hD : va_D A (mw h0 ad cs (upd (upd (upd (upd iv 21 (nI 0)) 22 p22_486) 25 (nI k25_487)) 30 (nI ((((n30 + 1) + 1) + 1) + 1))) (uF fv 19 f19_519) gv) := hD
          exact W.vret hx hb hr (fun t ht hW => ⟨⟨(), rfl, trivial, 0, p22_486, k25_487, (((n30 + 1) + 1) + 1) + 1, f19_519, by omega, by omega, by omega, Or.inr ⟨by omega, by omega, by omega, fun i h9 => by rw [q_520, up_ne (by omega), q_516, up_ne (by omega), q_512, up_ne (by omega), q_508, up_ne (by omega)], by rw [q_520, up_ne (by omega), q_516, up_ne (by omega), q_512, up_ne (by omega), q_508, up_eq], by rw [q_520, up_ne (by omega), q_516, up_ne (by omega), q_512, up_eq]; exact ⟨1, by omega, rfl⟩⟩, (by rw [show skB (fv 0) n26 n25 = k25_3 from q_8.eq]; have h6 : skB (fv 0) n26 e_36 = nxF (fv 0) n26 k25_3 := (by rw [nxF, teF_1 (wdE_sp (by omega) hw_13).2, he_11.r, hq_e_36]); have h5 : nxF (fv 0) n26 k25_3 = k25_457 := h6.symm.trans q_462.eq; have h4 : skB (fv 0) n26 e_481 = nxF (fv 0) n26 k25_457 := (by rw [nxF, teF_1 (wdE_sp (by omega) hw_467).2, he_465.r, hq_e_481]); exact ⟨skB (fv 0) n26 k25_487, 1, c_463, v_497, Or.inr ⟨k25_457, by rw [← h5]; exact (Or.inr (Or.inl ⟨by omega, by omega, rfl, rfl, by omega⟩) : whtR (fv 0) n26 k25_3 0 (nxF (fv 0) n26 k25_3) 1), Or.inr ⟨by omega, by omega, by rw [← h4]; exact hnr_501⟩⟩, fun _ => rfl, fun h9 => by omega⟩), fun _ => pe_503, by rw [ht]; exact hP, va_K.moved hW.alike hK, hD⟩, hS.F ht⟩) hS.2.2 dX9_test__170
        have d_521 := n_ne (a := c_463) (b := 9) (by omega) (by omega) c_477
        refine lv_iload_n hx hb dX9_test__107 rfl (lv_at hl 0 rfl) ?_
        refine lv_bipush (v := 10) hx hb dX9_test__108 (by decide) ?_
        refine lv_icmp_eq (tgt := 123) hx hb dX9_test__110 (by decide) (fun c_522 => ?_) (fun c_522 => ?_)
        · have d_523 := n_eq (a := c_463) (b := 10) (by omega) (by omega) c_522
          refine lv_aload_n hx hb dX9_test__123 rfl (lv_at hl 3 rfl) ?_
          refine lv_aload_n hx hb dX9_test__124 rfl (lv_at hl 3 rfl) ?_
          refine vp_callSi (W.runV (As := []) (rest := [.ref h0]) ⟨hx, hb, hml, hown, hts⟩ (m_wordEnd l D h0 ad cs (upd iv 25 (nI k25_457)) fv gv k25_457 n26  rfl h26 (by omega) (by omega)) (cwV 0 hts gX9_test__X9_wordEnd rfl rfl rfl (by decide +kernel) ⟨Nat.le_of_ble_eq_true rfl, Nat.le_of_ble_eq_true rfl⟩) ⟨fun a U g mk q => ⟨q.1, q.2.1, va_K.moved (u := U) (U := U.calling g mk a) (Vm.Alike.refl U.vm) q.2.2⟩, va_recv hK hP (ci := 9) (q0 := 0) rfl rfl, fun U hU hW => ⟨rfl, by rw [hU]; exact hP, va_K.moved hW.alike hK⟩⟩ rfl rfl hl.1 rfl (lv_room (Nat.le_of_ble_eq_true rfl)) dX9_test__125 ⟨Nat.le_of_ble_eq_true rfl, Nat.le_of_ble_eq_true rfl⟩) (fun r_524 k_525 => ?_)
          obtain ⟨e_526, rfl, he_527⟩ := k_525
          have hq_e_526 : e_526 = e_464 := he_527.uq he_465
          refine va_put (D := D) (ci := 9) (v := .int (nI e_526)) (ty := .int) (C := RX9) (T := TX9) (N := 44) hx hb hts hin9 tyX9 tyX9_ok nmX9 hown hK hP hD hS 0 rfl rfl 25 (by decide) (hts (.fieldLink RX9 87 "HoneyHouseModel" "at" "I") (List.mem_of_getElem? (i := 1) rfl)) (fun _ h9 => h9) rfl (tyX9_ok 25 (by decide)) rfl rfl (Nat.le_of_ble_eq_true rfl) dX9_test__128 (fun H locs hP hD hS => ?_)
          have hP : va_P D vwCl (mw h0 ad cs (upd iv 25 (nI e_526)) fv gv) H := hP
          have hD : va_D A (mw h0 ad cs (upd iv 25 (nI e_526)) fv gv) := hD
          refine lv_aload_n hx hb dX9_test__131 rfl (lv_at hl 3 rfl) ?_
          refine lv_sipush (v := 1000) hx hb dX9_test__132 (by decide) ?_
          have hFc := free_all hD hS hA
          refine va_calli (va_runV (As := [.int 1000]) (rest := []) ⟨hx, hb, hml, hown, hts⟩ (m_number l D h0 ad cs (upd iv 25 (nI e_526)) fv gv n21 e_526 n26 1000 H.size h21 rfl h26 (by omega) (by omega) (by omega) (by omega)) (cwV 1 hts gX9_test__X9_number rfl rfl rfl (by decide +kernel) ⟨Nat.le_of_ble_eq_true rfl, Nat.le_of_ble_eq_true rfl⟩) ⟨fun a U g mk q => by obtain ⟨q0, q1, qP, qK, qD⟩ := q; exact ⟨q0, q1, qP, va_K.moved (u := U) (U := U.calling g mk a) (Vm.Alike.refl U.vm) qK, qD⟩, va_recv hK hP (ci := 9) (q0 := 0) rfl rfl, fun U hU hW => ⟨rfl, by rw [hU], by rw [hU]; exact hP, va_K.moved hW.alike hK, hD.weaken (fun _ _ _ _ => trivial)⟩⟩ rfl rfl hl.1 rfl (lv_room (Nat.le_of_ble_eq_true rfl)) dX9_test__135 ⟨Nat.le_of_ble_eq_true rfl, Nat.le_of_ble_eq_true rfl⟩) hS (fun q _ h => hFc q h) hFc (fun r_528 u t H1 locs ht hvm w_529 hB hz1 hk1 hS => ?_)
          subst w_529
          obtain ⟨k21_530, p22_531, k25_532, q_533, q_534, q_535, q_536, q_537, q_538, hP1, hK1, hD1⟩ := hB
          replace q_537 : NUX ((fv 0)) n26 1000 (skB ((fv 0)) n26 e_526) k21_530 p22_531 k25_532 r_528 := q_537
          replace q_538 : k21_530 = 0 → p22_531 = (iv 22) := q_538
          rw [ht] at hP1
          have hK := va_K.moved hvm.symm hK1
          generalize H1 = H at hP1 hS ⊢
          have hP : va_P D vwCl (mw h0 ad cs (upd (upd (upd iv 21 (nI k21_530)) 22 p22_531) 25 (nI k25_532)) fv gv) H := hP1
          have hD : va_D A (mw h0 ad cs (upd (upd (upd iv 21 (nI k21_530)) 22 p22_531) 25 (nI k25_532)) fv gv) := hD1.weaken (fun _ _ _ h => hFc _ h)
          rcases q_536 with hp_539 | ⟨rfl, hg_541⟩
          · obtain ⟨P_544, hP_545, hnr_546⟩ := q_537.no (by omega)
            refine lv_istore (lv' := [(4, .int r_528), (3, .int (nI c_463)), (2, .int 1), (1, .int (nI c_9)), (0, .ref h0)]) hx hb dX9_test__138 hl (by decide) rfl (fun ls hl => ?_)
            refine lv_aload_n hx hb dX9_test__140 rfl (lv_at hl 4 rfl) ?_
            refine va_get (D := D) (ci := 9) (v := .int (nI k21_530)) (C := RX9) (T := TX9) (N := 44) hx hb hts hin9 hown hK hP 0 rfl rfl 21 (by decide) (hts (.fieldLink RX9 74 "HoneyHouseModel" "faultKind" "I") (List.mem_of_getElem? (i := 2) rfl)) (fun _ h9 => h9) rfl dX9_test__141 ?_
            refine lv_if_le (tgt := 148) hx hb dX9_test__144 (by decide) (fun c_547 => absurd c_547 (nI_nle (n := k21_530) (by omega) (by omega))) (fun c_547 => ?_)
            have hP : va_P D vwCl (mw h0 ad cs (upd (upd (upd (upd iv 21 (nI k21_530)) 22 p22_531) 25 (nI k25_532)) 30 (iv 30)) (uF fv 19 (fv 19)) gv) H := hP
            have hD : va_D A (mw h0 ad cs (upd (upd (upd (upd iv 21 (nI k21_530)) 22 p22_531) 25 (nI k25_532)) 30 (iv 30)) (uF fv 19 (fv 19)) gv) := hD
            have hP := hP
            rw [h30] at hP hD
            exact W.vret hx hb hr (fun t ht hW => ⟨⟨(), rfl, trivial, k21_530, p22_531, k25_532, n30, fv 19, by omega, by omega, by omega, Or.inl ⟨by omega, by omega, rfl⟩, (by rw [show skB (fv 0) n26 n25 = k25_3 from q_8.eq]; have h6 : skB (fv 0) n26 e_36 = nxF (fv 0) n26 k25_3 := (by rw [nxF, teF_1 (wdE_sp (by omega) hw_13).2, he_11.r, hq_e_36]); have h5 : nxF (fv 0) n26 k25_3 = k25_457 := h6.symm.trans q_462.eq; have h4 : skB (fv 0) n26 e_526 = nxF (fv 0) n26 k25_457 := (by rw [nxF, teF_1 (wdE_sp (by omega) hw_467).2, he_465.r, hq_e_526]); exact ⟨P_544, 1, c_463, 0, Or.inr ⟨k25_457, by rw [← h5]; exact (Or.inr (Or.inl ⟨by omega, by omega, rfl, rfl, by omega⟩) : whtR (fv 0) n26 k25_3 0 (nxF (fv 0) n26 k25_3) 1), Or.inr ⟨by omega, by omega, by rw [← h4]; exact hnr_546⟩⟩, fun h9 => by omega, fun _ => hP_545⟩), fun h9 => absurd h9 (by omega), by rw [ht]; exact hP, va_K.moved hW.alike hK, hD⟩, hS.F ht⟩) hS.2.2 dX9_test__147
          obtain ⟨v_542, hv_543, rfl, hnr_546⟩ := q_537.ok
          have pe_548 : p22_531 = iv 22 := q_538 rfl
          refine lv_istore (lv' := [(4, .int (nI v_542)), (3, .int (nI c_463)), (2, .int 1), (1, .int (nI c_9)), (0, .ref h0)]) hx hb dX9_test__138 hl (by decide) rfl (fun ls hl => ?_)
          refine lv_aload_n hx hb dX9_test__140 rfl (lv_at hl 4 rfl) ?_
          refine va_get (D := D) (ci := 9) (v := .int (nI 0)) (C := RX9) (T := TX9) (N := 44) hx hb hts hin9 hown hK hP 0 rfl rfl 21 (by decide) (hts (.fieldLink RX9 74 "HoneyHouseModel" "faultKind" "I") (List.mem_of_getElem? (i := 2) rfl)) (fun _ h9 => h9) rfl dX9_test__141 ?_
          refine lv_if_le (tgt := 148) hx hb dX9_test__144 (by decide) (fun c_549 => ?_) (fun c_549 => absurd (by decide) c_549)
          refine lv_aload_n hx hb dX9_test__148 rfl (lv_at hl 4 rfl) ?_
          refine lv_bipush (v := 13) hx hb dX9_test__149 (by decide) ?_
          have hFc := free_all hD hS hA
          refine va_callv (va_runV (As := [.int 13]) (rest := []) ⟨hx, hb, hml, hown, hts⟩ (m_add l D h0 ad cs (upd (upd (upd iv 21 (nI 0)) 22 p22_531) 25 (nI k25_532)) fv gv n14 n30 13 H.size h14 h30 (by omega) (by omega)) (cwV 1 hts gX9_test__X9_add rfl rfl rfl (by decide +kernel) ⟨Nat.le_of_ble_eq_true rfl, Nat.le_of_ble_eq_true rfl⟩) ⟨fun a U g mk q => by obtain ⟨q0, q1, qP, qK, qD⟩ := q; exact ⟨q0, q1, qP, va_K.moved (u := U) (U := U.calling g mk a) (Vm.Alike.refl U.vm) qK, qD⟩, va_recv hK hP (ci := 9) (q0 := 0) rfl rfl, fun U hU hW => ⟨rfl, by rw [hU], by rw [hU]; exact hP, va_K.moved hW.alike hK, hD.weaken (fun _ _ _ _ => trivial)⟩⟩ rfl rfl hl.1 rfl (lv_room (Nat.le_of_ble_eq_true rfl)) dX9_test__151 ⟨Nat.le_of_ble_eq_true rfl, Nat.le_of_ble_eq_true rfl⟩) hS (fun q _ h => hFc q h) hFc (fun u t H1 locs ht hvm w_551 hB hz1 hk1 hS => ?_)
          obtain ⟨f19_552, q_553, hP1, hK1, hD1⟩ := hB
          replace q_553 : f19_552 = upd ((fv 19)) (200 * n14 + n30) 13 := q_553
          rw [ht] at hP1
          have hK := va_K.moved hvm.symm hK1
          generalize H1 = H at hP1 hS ⊢
          have hP : va_P D vwCl (mw h0 ad cs (upd (upd (upd (upd iv 21 (nI 0)) 22 p22_531) 25 (nI k25_532)) 30 (nI (n30 + 1))) (uF fv 19 f19_552) gv) H := hP1
          have hD : va_D A (mw h0 ad cs (upd (upd (upd (upd iv 21 (nI 0)) 22 p22_531) 25 (nI k25_532)) 30 (nI (n30 + 1))) (uF fv 19 f19_552) gv) := hD1.weaken (fun _ _ _ h => hFc _ h)
          refine lv_aload_n hx hb dX9_test__154 rfl (lv_at hl 4 rfl) ?_
          refine lv_iload_n hx hb dX9_test__155 rfl (lv_at hl 2 rfl) ?_
          have hFc := free_all hD hS hA
          refine va_callv (va_runV (As := [.int 1]) (rest := []) ⟨hx, hb, hml, hown, hts⟩ (m_add l D h0 ad cs (upd (upd (upd (upd iv 21 (nI 0)) 22 p22_531) 25 (nI k25_532)) 30 (nI (n30 + 1))) (uF fv 19 f19_552) gv n14 (n30 + 1) 1 H.size h14 rfl (by omega) (by omega)) (cwV 1 hts gX9_test__X9_add rfl rfl rfl (by decide +kernel) ⟨Nat.le_of_ble_eq_true rfl, Nat.le_of_ble_eq_true rfl⟩) ⟨fun a U g mk q => by obtain ⟨q0, q1, qP, qK, qD⟩ := q; exact ⟨q0, q1, qP, va_K.moved (u := U) (U := U.calling g mk a) (Vm.Alike.refl U.vm) qK, qD⟩, va_recv hK hP (ci := 9) (q0 := 0) rfl rfl, fun U hU hW => ⟨rfl, by rw [hU], by rw [hU]; exact hP, va_K.moved hW.alike hK, hD.weaken (fun _ _ _ _ => trivial)⟩⟩ rfl rfl hl.1 rfl (lv_room (Nat.le_of_ble_eq_true rfl)) dX9_test__156 ⟨Nat.le_of_ble_eq_true rfl, Nat.le_of_ble_eq_true rfl⟩) hS (fun q _ h => hFc q h) hFc (fun u t H1 locs ht hvm w_555 hB hz1 hk1 hS => ?_)
          obtain ⟨f19_556, q_557, hP1, hK1, hD1⟩ := hB
          replace q_557 : f19_556 = upd ((f19_552)) (200 * n14 + (n30 + 1)) 1 := q_557
          rw [ht] at hP1
          have hK := va_K.moved hvm.symm hK1
          generalize H1 = H at hP1 hS ⊢
          have hP : va_P D vwCl (mw h0 ad cs (upd (upd (upd (upd iv 21 (nI 0)) 22 p22_531) 25 (nI k25_532)) 30 (nI ((n30 + 1) + 1))) (uF fv 19 f19_556) gv) H := hP1
          have hD : va_D A (mw h0 ad cs (upd (upd (upd (upd iv 21 (nI 0)) 22 p22_531) 25 (nI k25_532)) 30 (nI ((n30 + 1) + 1))) (uF fv 19 f19_556) gv) := hD1.weaken (fun _ _ _ h => hFc _ h)
          refine lv_aload_n hx hb dX9_test__159 rfl (lv_at hl 4 rfl) ?_
          refine lv_iload_n hx hb dX9_test__160 rfl (lv_at hl 1 rfl) ?_
          have hFc := free_all hD hS hA
          refine va_callv (va_runV (As := [.int (nI c_463)]) (rest := []) ⟨hx, hb, hml, hown, hts⟩ (m_add l D h0 ad cs (upd (upd (upd (upd iv 21 (nI 0)) 22 p22_531) 25 (nI k25_532)) 30 (nI ((n30 + 1) + 1))) (uF fv 19 f19_556) gv n14 ((n30 + 1) + 1) (nI c_463) H.size h14 rfl (by omega) (by omega)) (cwV 1 hts gX9_test__X9_add rfl rfl rfl (by decide +kernel) ⟨Nat.le_of_ble_eq_true rfl, Nat.le_of_ble_eq_true rfl⟩) ⟨fun a U g mk q => by obtain ⟨q0, q1, qP, qK, qD⟩ := q; exact ⟨q0, q1, qP, va_K.moved (u := U) (U := U.calling g mk a) (Vm.Alike.refl U.vm) qK, qD⟩, va_recv hK hP (ci := 9) (q0 := 0) rfl rfl, fun U hU hW => ⟨rfl, by rw [hU], by rw [hU]; exact hP, va_K.moved hW.alike hK, hD.weaken (fun _ _ _ _ => trivial)⟩⟩ rfl rfl hl.1 rfl (lv_room (Nat.le_of_ble_eq_true rfl)) dX9_test__161 ⟨Nat.le_of_ble_eq_true rfl, Nat.le_of_ble_eq_true rfl⟩) hS (fun q _ h => hFc q h) hFc (fun u t H1 locs ht hvm w_559 hB hz1 hk1 hS => ?_)
          obtain ⟨f19_560, q_561, hP1, hK1, hD1⟩ := hB
          replace q_561 : f19_560 = upd ((f19_556)) (200 * n14 + ((n30 + 1) + 1)) (nI c_463) := q_561
          rw [ht] at hP1
          have hK := va_K.moved hvm.symm hK1
          generalize H1 = H at hP1 hS ⊢
          have hP : va_P D vwCl (mw h0 ad cs (upd (upd (upd (upd iv 21 (nI 0)) 22 p22_531) 25 (nI k25_532)) 30 (nI (((n30 + 1) + 1) + 1))) (uF fv 19 f19_560) gv) H := hP1
          have hD : va_D A (mw h0 ad cs (upd (upd (upd (upd iv 21 (nI 0)) 22 p22_531) 25 (nI k25_532)) 30 (nI (((n30 + 1) + 1) + 1))) (uF fv 19 f19_560) gv) := hD1.weaken (fun _ _ _ h => hFc _ h)
          refine lv_aload_n hx hb dX9_test__164 rfl (lv_at hl 4 rfl) ?_
          refine lv_iload hx hb dX9_test__165 (lv_at hl 0 rfl) ?_
          have hFc := free_all hD hS hA
          refine va_callv (va_runV (As := [.int (nI v_542)]) (rest := []) ⟨hx, hb, hml, hown, hts⟩ (m_add l D h0 ad cs (upd (upd (upd (upd iv 21 (nI 0)) 22 p22_531) 25 (nI k25_532)) 30 (nI (((n30 + 1) + 1) + 1))) (uF fv 19 f19_560) gv n14 (((n30 + 1) + 1) + 1) (nI v_542) H.size h14 rfl (by omega) (by omega)) (cwV 1 hts gX9_test__X9_add rfl rfl rfl (by decide +kernel) ⟨Nat.le_of_ble_eq_true rfl, Nat.le_of_ble_eq_true rfl⟩) ⟨fun a U g mk q => by obtain ⟨q0, q1, qP, qK, qD⟩ := q; exact ⟨q0, q1, qP, va_K.moved (u := U) (U := U.calling g mk a) (Vm.Alike.refl U.vm) qK, qD⟩, va_recv hK hP (ci := 9) (q0 := 0) rfl rfl, fun U hU hW => ⟨rfl, by rw [hU], by rw [hU]; exact hP, va_K.moved hW.alike hK, hD.weaken (fun _ _ _ _ => trivial)⟩⟩ rfl rfl hl.1 rfl (lv_room (Nat.le_of_ble_eq_true rfl)) dX9_test__167 ⟨Nat.le_of_ble_eq_true rfl, Nat.le_of_ble_eq_true rfl⟩) hS (fun q _ h => hFc q h) hFc (fun u t H1 locs ht hvm w_563 hB hz1 hk1 hS => ?_)
          obtain ⟨f19_564, q_565, hP1, hK1, hD1⟩ := hB
          replace q_565 : f19_564 = upd ((f19_560)) (200 * n14 + (((n30 + 1) + 1) + 1)) (nI v_542) := q_565
          rw [ht] at hP1
          have hK := va_K.moved hvm.symm hK1
          generalize H1 = H at hP1 hS ⊢
          have hP : va_P D vwCl (mw h0 ad cs (upd (upd (upd (upd iv 21 (nI 0)) 22 p22_531) 25 (nI k25_532)) 30 (nI ((((n30 + 1) + 1) + 1) + 1))) (uF fv 19 f19_564) gv) H := hP1
          have hD : va_D A (mw h0 ad cs (upd (upd (upd (upd iv 21 (nI 0)) 22 p22_531) 25 (nI k25_532)) 30 (nI ((((n30 + 1) + 1) + 1) + 1))) (uF fv 19 f19_564) gv) := hD1.weaken (fun _ _ _ h => hFc _ h)
          have hP : va_P D vwCl (mw h0 ad cs (upd (upd (upd (upd iv 21 (nI 0)) 22 p22_531) 25 (nI k25_532)) 30 (nI ((((n30 + 1) + 1) + 1) + 1))) (uF fv 19 f19_564) gv) H := hP
          have hD : va_D A (mw h0 ad cs (upd (upd (upd (upd iv 21 (nI 0)) 22 p22_531) 25 (nI k25_532)) 30 (nI ((((n30 + 1) + 1) + 1) + 1))) (uF fv 19 f19_564) gv) := hD
          exact W.vret hx hb hr (fun t ht hW => ⟨⟨(), rfl, trivial, 0, p22_531, k25_532, (((n30 + 1) + 1) + 1) + 1, f19_564, by omega, by omega, by omega, Or.inr ⟨by omega, by omega, by omega, fun i h9 => by rw [q_565, up_ne (by omega), q_561, up_ne (by omega), q_557, up_ne (by omega), q_553, up_ne (by omega)], by rw [q_565, up_ne (by omega), q_561, up_ne (by omega), q_557, up_ne (by omega), q_553, up_eq], by rw [q_565, up_ne (by omega), q_561, up_ne (by omega), q_557, up_eq]; exact ⟨1, by omega, rfl⟩⟩, (by rw [show skB (fv 0) n26 n25 = k25_3 from q_8.eq]; have h6 : skB (fv 0) n26 e_36 = nxF (fv 0) n26 k25_3 := (by rw [nxF, teF_1 (wdE_sp (by omega) hw_13).2, he_11.r, hq_e_36]); have h5 : nxF (fv 0) n26 k25_3 = k25_457 := h6.symm.trans q_462.eq; have h4 : skB (fv 0) n26 e_526 = nxF (fv 0) n26 k25_457 := (by rw [nxF, teF_1 (wdE_sp (by omega) hw_467).2, he_465.r, hq_e_526]); exact ⟨skB (fv 0) n26 k25_532, 1, c_463, v_542, Or.inr ⟨k25_457, by rw [← h5]; exact (Or.inr (Or.inl ⟨by omega, by omega, rfl, rfl, by omega⟩) : whtR (fv 0) n26 k25_3 0 (nxF (fv 0) n26 k25_3) 1), Or.inr ⟨by omega, by omega, by rw [← h4]; exact hnr_546⟩⟩, fun _ => rfl, fun h9 => by omega⟩), fun _ => pe_548, by rw [ht]; exact hP, va_K.moved hW.alike hK, hD⟩, hS.F ht⟩) hS.2.2 dX9_test__170
        have d_566 := n_ne (a := c_463) (b := 10) (by omega) (by omega) c_522
        refine lv_aload_n hx hb dX9_test__113 rfl (lv_at hl 3 rfl) ?_
        refine lv_iconst (v := 1) hx hb dX9_test__114 (by decide) ?_
        refine lv_aload_n hx hb dX9_test__115 rfl (lv_at hl 3 rfl) ?_
        refine va_get (D := D) (ci := 9) (v := .int (nI k25_457)) (C := RX9) (T := TX9) (N := 44) hx hb hts hin9 hown hK hP 0 rfl rfl 25 (by decide) (hts (.fieldLink RX9 87 "HoneyHouseModel" "at" "I") (List.mem_of_getElem? (i := 1) rfl)) (fun _ h9 => h9) rfl dX9_test__116 ?_
        have hFc := free_all hD hS hA
        refine va_callv (va_runV (As := [.int 1, .int (nI k25_457)]) (rest := []) ⟨hx, hb, hml, hown, hts⟩ (m_blame l D h0 ad cs (upd iv 25 (nI k25_457)) fv gv n21 1 (nI k25_457) H.size h21 (by omega) (by omega)) (cwV 2 hts gX9_test__X9_blame rfl rfl rfl (by decide +kernel) ⟨Nat.le_of_ble_eq_true rfl, Nat.le_of_ble_eq_true rfl⟩) ⟨fun a U g mk q => by obtain ⟨q0, q1, qP, qK, qD⟩ := q; exact ⟨q0, q1, qP, va_K.moved (u := U) (U := U.calling g mk a) (Vm.Alike.refl U.vm) qK, qD⟩, va_recv hK hP (ci := 9) (q0 := 0) rfl rfl, fun U hU hW => ⟨rfl, by rw [hU], by rw [hU]; exact hP, va_K.moved hW.alike hK, hD.weaken (fun _ _ _ _ => trivial)⟩⟩ rfl rfl hl.1 rfl (lv_room (Nat.le_of_ble_eq_true rfl)) dX9_test__119 ⟨Nat.le_of_ble_eq_true rfl, Nat.le_of_ble_eq_true rfl⟩) hS (fun q _ h => hFc q h) hFc (fun u t H1 locs ht hvm w_568 hB hz1 hk1 hS => ?_)
        obtain ⟨k21_569, p22_570, q_571, q_572, q_573, hP1, hK1, hD1⟩ := hB
        replace q_573 : (n21 = 0 → k21_569 = 1 ∧ p22_570 = (nI k25_457)) ∧ (¬ n21 = 0 → k21_569 = n21 ∧ p22_570 = (iv 22)) := q_573
        rw [ht] at hP1
        have hK := va_K.moved hvm.symm hK1
        generalize H1 = H at hP1 hS ⊢
        have hP : va_P D vwCl (mw h0 ad cs (upd (upd (upd iv 21 (nI k21_569)) 22 p22_570) 25 (nI k25_457)) fv gv) H := hP1
        have hD : va_D A (mw h0 ad cs (upd (upd (upd iv 21 (nI k21_569)) 22 p22_570) 25 (nI k25_457)) fv gv) := hD1.weaken (fun _ _ _ h => hFc _ h)
        have hP : va_P D vwCl (mw h0 ad cs (upd (upd (upd (upd iv 21 (nI k21_569)) 22 p22_570) 25 (nI k25_457)) 30 (iv 30)) (uF fv 19 (fv 19)) gv) H := hP
        have hD : va_D A (mw h0 ad cs (upd (upd (upd (upd iv 21 (nI k21_569)) 22 p22_570) 25 (nI k25_457)) 30 (iv 30)) (uF fv 19 (fv 19)) gv) := hD
        have hP := hP
        rw [h30] at hP hD
        exact W.vret hx hb hr (fun t ht hW => ⟨⟨(), rfl, trivial, k21_569, p22_570, k25_457, n30, fv 19, by omega, by omega, by omega, Or.inl ⟨by omega, by omega, rfl⟩, (by rw [show skB (fv 0) n26 n25 = k25_3 from q_8.eq]; have h6 : skB (fv 0) n26 e_36 = nxF (fv 0) n26 k25_3 := (by rw [nxF, teF_1 (wdE_sp (by omega) hw_13).2, he_11.r, hq_e_36]); have h5 : nxF (fv 0) n26 k25_3 = k25_457 := h6.symm.trans q_462.eq; exact ⟨k25_457, 1, 0, 0, Or.inr ⟨k25_457, by rw [← h5]; exact (Or.inr (Or.inl ⟨by omega, by omega, rfl, rfl, by omega⟩) : whtR (fv 0) n26 k25_3 0 (nxF (fv 0) n26 k25_3) 1), Or.inl ⟨by omega, (q_573.1 (by omega)).1, rfl⟩⟩, fun h9 => by omega, fun _ => (q_573.1 (by omega)).2⟩), fun h9 => absurd h9 (by omega), by rw [ht]; exact hP, va_K.moved hW.alike hK, hD⟩, hS.F ht⟩) hS.2.2 dX9_test__122
      have d_574 := n_nle (a := n21) (b := 0) (by omega) (by omega) c_453
      have hP : va_P D vwCl (mw h0 ad cs (upd (upd (upd (upd iv 21 (iv 21)) 22 (iv 22)) 25 (nI e_36)) 30 (iv 30)) (uF fv 19 (fv 19)) gv) H := hP
      have hD : va_D A (mw h0 ad cs (upd (upd (upd (upd iv 21 (iv 21)) 22 (iv 22)) 25 (nI e_36)) 30 (iv 30)) (uF fv 19 (fv 19)) gv) := hD
      have hP := hP
      have hP := hP
      rw [h21, h30] at hP hD
      exact W.vret hx hb hr (fun t ht hW => ⟨⟨(), rfl, trivial, n21, iv 22, e_36, n30, fv 19, by omega, by omega, by omega, Or.inl ⟨by omega, by omega, rfl⟩, (by exfalso; omega), fun h9 => absurd h9 (by omega), by rw [ht]; exact hP, va_K.moved hW.alike hK, hD⟩, hS.F ht⟩) hS.2.2 dX9_test__95
    have d_575 := n_eq (a := c_9) (b := 4) (by omega) (by omega) c_38
    have hwc : wdE (fv 0) n26 k25_3 = 4 := by omega
    refine lv_iconst (v := 0) hx hb dX9_test__39 (by decide) ?_
    refine lv_goto (tgt := 87) hx hb dX9_test__40 (by decide) ?_
    refine lv_istore_n (lv' := [(2, .int 0), (1, .int (nI c_9)), (0, .ref h0)]) hx hb dX9_test__87 rfl hl (by decide) rfl (fun ls hl => ?_)
    refine lv_aload_n hx hb dX9_test__88 rfl (lv_at hl 2 rfl) ?_
    refine va_get (D := D) (ci := 9) (v := .int (iv 21)) (C := RX9) (T := TX9) (N := 44) hx hb hts hin9 hown hK hP 0 rfl rfl 21 (by decide) (hts (.fieldLink RX9 74 "HoneyHouseModel" "faultKind" "I") (List.mem_of_getElem? (i := 2) rfl)) (fun _ h9 => h9) rfl dX9_test__89 ?_
    refine tp_i (y := nI n21) (h21) ?_
    refine lv_if_le (tgt := 96) hx hb dX9_test__92 (by decide) (fun c_576 => ?_) (fun c_576 => ?_)
    · have d_577 := n_le (a := n21) (b := 0) (by omega) (by omega) c_576
      refine lv_aload_n hx hb dX9_test__96 rfl (lv_at hl 2 rfl) ?_
      have hFc := free_all hD hS hA
      refine va_calli (va_runV (As := []) (rest := []) ⟨hx, hb, hml, hown, hts⟩ (m_peek l D h0 ad cs (upd iv 25 (nI e_36)) fv gv e_36 n26  H.size rfl h26 (by omega) (by omega)) (cwV 0 hts gX9_test__X9_peek rfl rfl rfl (by decide +kernel) ⟨Nat.le_of_ble_eq_true rfl, Nat.le_of_ble_eq_true rfl⟩) ⟨fun a U g mk q => by obtain ⟨q0, q1, qP, qK, qD⟩ := q; exact ⟨q0, q1, qP, va_K.moved (u := U) (U := U.calling g mk a) (Vm.Alike.refl U.vm) qK, qD⟩, va_recv hK hP (ci := 9) (q0 := 0) rfl rfl, fun U hU hW => ⟨rfl, by rw [hU], by rw [hU]; exact hP, va_K.moved hW.alike hK, hD.weaken (fun _ _ _ _ => trivial)⟩⟩ rfl rfl hl.1 rfl (lv_room (Nat.le_of_ble_eq_true rfl)) dX9_test__97 ⟨Nat.le_of_ble_eq_true rfl, Nat.le_of_ble_eq_true rfl⟩) hS (fun q _ h => hFc q h) hFc (fun r_578 u t H1 locs ht hvm w_579 hB hz1 hk1 hS => ?_)
      subst w_579
      obtain ⟨k25_580, q_581, q_582, q_583, q_584, q_585, hP1, hK1, hD1⟩ := hB
      replace q_583 : (e_36 = n26 ∨ ¬ blk ((fv 0) e_36)) → k25_580 = e_36 := q_583
      replace q_584 : PKD ((fv 0)) n26 k25_580 r_578 := q_584
      replace q_585 : isRn blk ((fv 0)) n26 e_36 k25_580 := q_585
      rw [ht] at hP1
      have hK := va_K.moved hvm.symm hK1
      generalize H1 = H at hP1 hS ⊢
      have hP : va_P D vwCl (mw h0 ad cs (upd iv 25 (nI k25_580)) fv gv) H := hP1
      have hD : va_D A (mw h0 ad cs (upd iv 25 (nI k25_580)) fv gv) := hD1.weaken (fun _ _ _ h => hFc _ h)
      rcases q_584 with ⟨rfl, hw_590⟩ | ⟨c_586, e_587, rfl, he_588, hc_589, hw_590⟩
      · refine lv_istore_n (lv' := [(3, .int (-1)), (2, .int 0), (1, .int (nI c_9)), (0, .ref h0)]) hx hb dX9_test__100 rfl hl (by decide) rfl (fun ls hl => ?_)
        refine lv_iload_n hx hb dX9_test__101 rfl (lv_at hl 0 rfl) ?_
        refine lv_bipush (v := 9) hx hb dX9_test__102 (by decide) ?_
        refine lv_icmp_eq (tgt := 123) hx hb dX9_test__104 (by decide) (fun c_591 => absurd c_591 (by decide)) (fun c_591 => ?_)
        refine lv_iload_n hx hb dX9_test__107 rfl (lv_at hl 0 rfl) ?_
        refine lv_bipush (v := 10) hx hb dX9_test__108 (by decide) ?_
        refine lv_icmp_eq (tgt := 123) hx hb dX9_test__110 (by decide) (fun c_592 => absurd c_592 (by decide)) (fun c_592 => ?_)
        refine lv_aload_n hx hb dX9_test__113 rfl (lv_at hl 3 rfl) ?_
        refine lv_iconst (v := 1) hx hb dX9_test__114 (by decide) ?_
        refine lv_aload_n hx hb dX9_test__115 rfl (lv_at hl 3 rfl) ?_
        refine va_get (D := D) (ci := 9) (v := .int (nI k25_580)) (C := RX9) (T := TX9) (N := 44) hx hb hts hin9 hown hK hP 0 rfl rfl 25 (by decide) (hts (.fieldLink RX9 87 "HoneyHouseModel" "at" "I") (List.mem_of_getElem? (i := 1) rfl)) (fun _ h9 => h9) rfl dX9_test__116 ?_
        have hFc := free_all hD hS hA
        refine va_callv (va_runV (As := [.int 1, .int (nI k25_580)]) (rest := []) ⟨hx, hb, hml, hown, hts⟩ (m_blame l D h0 ad cs (upd iv 25 (nI k25_580)) fv gv n21 1 (nI k25_580) H.size h21 (by omega) (by omega)) (cwV 2 hts gX9_test__X9_blame rfl rfl rfl (by decide +kernel) ⟨Nat.le_of_ble_eq_true rfl, Nat.le_of_ble_eq_true rfl⟩) ⟨fun a U g mk q => by obtain ⟨q0, q1, qP, qK, qD⟩ := q; exact ⟨q0, q1, qP, va_K.moved (u := U) (U := U.calling g mk a) (Vm.Alike.refl U.vm) qK, qD⟩, va_recv hK hP (ci := 9) (q0 := 0) rfl rfl, fun U hU hW => ⟨rfl, by rw [hU], by rw [hU]; exact hP, va_K.moved hW.alike hK, hD.weaken (fun _ _ _ _ => trivial)⟩⟩ rfl rfl hl.1 rfl (lv_room (Nat.le_of_ble_eq_true rfl)) dX9_test__119 ⟨Nat.le_of_ble_eq_true rfl, Nat.le_of_ble_eq_true rfl⟩) hS (fun q _ h => hFc q h) hFc (fun u t H1 locs ht hvm w_594 hB hz1 hk1 hS => ?_)
        obtain ⟨k21_595, p22_596, q_597, q_598, q_599, hP1, hK1, hD1⟩ := hB
        replace q_599 : (n21 = 0 → k21_595 = 1 ∧ p22_596 = (nI k25_580)) ∧ (¬ n21 = 0 → k21_595 = n21 ∧ p22_596 = (iv 22)) := q_599
        rw [ht] at hP1
        have hK := va_K.moved hvm.symm hK1
        generalize H1 = H at hP1 hS ⊢
        have hP : va_P D vwCl (mw h0 ad cs (upd (upd (upd iv 21 (nI k21_595)) 22 p22_596) 25 (nI k25_580)) fv gv) H := hP1
        have hD : va_D A (mw h0 ad cs (upd (upd (upd iv 21 (nI k21_595)) 22 p22_596) 25 (nI k25_580)) fv gv) := hD1.weaken (fun _ _ _ h => hFc _ h)
        have hP : va_P D vwCl (mw h0 ad cs (upd (upd (upd (upd iv 21 (nI k21_595)) 22 p22_596) 25 (nI k25_580)) 30 (iv 30)) (uF fv 19 (fv 19)) gv) H := hP
        have hD : va_D A (mw h0 ad cs (upd (upd (upd (upd iv 21 (nI k21_595)) 22 p22_596) 25 (nI k25_580)) 30 (iv 30)) (uF fv 19 (fv 19)) gv) := hD
        have hP := hP
        rw [h30] at hP hD
        exact W.vret hx hb hr (fun t ht hW => ⟨⟨(), rfl, trivial, k21_595, p22_596, k25_580, n30, fv 19, by omega, by omega, by omega, Or.inl ⟨by omega, by omega, rfl⟩, (by rw [show skB (fv 0) n26 n25 = k25_3 from q_8.eq]; have h6 : skB (fv 0) n26 e_36 = nxF (fv 0) n26 k25_3 := (by rw [nxF, teF_1 (wdE_sp (by omega) hw_13).2, he_11.r, hq_e_36]); have h5 : nxF (fv 0) n26 k25_3 = k25_580 := h6.symm.trans q_585.eq; exact ⟨k25_580, 0, 0, 0, Or.inr ⟨k25_580, by rw [← h5]; exact (Or.inr (Or.inl ⟨by omega, by omega, rfl, rfl, by omega⟩) : whtR (fv 0) n26 k25_3 0 (nxF (fv 0) n26 k25_3) 0), Or.inl ⟨by omega, (q_599.1 (by omega)).1, rfl⟩⟩, fun h9 => by omega, fun _ => (q_599.1 (by omega)).2⟩), fun h9 => absurd h9 (by omega), by rw [ht]; exact hP, va_K.moved hW.alike hK, hD⟩, hS.F ht⟩) hS.2.2 dX9_test__122
      have he_588b : k25_580 ≤ e_587 ∧ e_587 ≤ n26 := ⟨he_588.1, he_588.2.1⟩
      refine lv_istore_n (lv' := [(3, .int (nI c_586)), (2, .int 0), (1, .int (nI c_9)), (0, .ref h0)]) hx hb dX9_test__100 rfl hl (by decide) rfl (fun ls hl => ?_)
      refine lv_iload_n hx hb dX9_test__101 rfl (lv_at hl 0 rfl) ?_
      refine lv_bipush (v := 9) hx hb dX9_test__102 (by decide) ?_
      refine lv_icmp_eq (tgt := 123) hx hb dX9_test__104 (by decide) (fun c_600 => ?_) (fun c_600 => ?_)
      · have d_601 := n_eq (a := c_586) (b := 9) (by omega) (by omega) c_600
        refine lv_aload_n hx hb dX9_test__123 rfl (lv_at hl 3 rfl) ?_
        refine lv_aload_n hx hb dX9_test__124 rfl (lv_at hl 3 rfl) ?_
        refine vp_callSi (W.runV (As := []) (rest := [.ref h0]) ⟨hx, hb, hml, hown, hts⟩ (m_wordEnd l D h0 ad cs (upd iv 25 (nI k25_580)) fv gv k25_580 n26  rfl h26 (by omega) (by omega)) (cwV 0 hts gX9_test__X9_wordEnd rfl rfl rfl (by decide +kernel) ⟨Nat.le_of_ble_eq_true rfl, Nat.le_of_ble_eq_true rfl⟩) ⟨fun a U g mk q => ⟨q.1, q.2.1, va_K.moved (u := U) (U := U.calling g mk a) (Vm.Alike.refl U.vm) q.2.2⟩, va_recv hK hP (ci := 9) (q0 := 0) rfl rfl, fun U hU hW => ⟨rfl, by rw [hU]; exact hP, va_K.moved hW.alike hK⟩⟩ rfl rfl hl.1 rfl (lv_room (Nat.le_of_ble_eq_true rfl)) dX9_test__125 ⟨Nat.le_of_ble_eq_true rfl, Nat.le_of_ble_eq_true rfl⟩) (fun r_602 k_603 => ?_)
        obtain ⟨e_604, rfl, he_605⟩ := k_603
        have hq_e_604 : e_604 = e_587 := he_605.uq he_588
        refine va_put (D := D) (ci := 9) (v := .int (nI e_604)) (ty := .int) (C := RX9) (T := TX9) (N := 44) hx hb hts hin9 tyX9 tyX9_ok nmX9 hown hK hP hD hS 0 rfl rfl 25 (by decide) (hts (.fieldLink RX9 87 "HoneyHouseModel" "at" "I") (List.mem_of_getElem? (i := 1) rfl)) (fun _ h9 => h9) rfl (tyX9_ok 25 (by decide)) rfl rfl (Nat.le_of_ble_eq_true rfl) dX9_test__128 (fun H locs hP hD hS => ?_)
        have hP : va_P D vwCl (mw h0 ad cs (upd iv 25 (nI e_604)) fv gv) H := hP
        have hD : va_D A (mw h0 ad cs (upd iv 25 (nI e_604)) fv gv) := hD
        refine lv_aload_n hx hb dX9_test__131 rfl (lv_at hl 3 rfl) ?_
        refine lv_sipush (v := 1000) hx hb dX9_test__132 (by decide) ?_
        have hFc := free_all hD hS hA
        refine va_calli (va_runV (As := [.int 1000]) (rest := []) ⟨hx, hb, hml, hown, hts⟩ (m_number l D h0 ad cs (upd iv 25 (nI e_604)) fv gv n21 e_604 n26 1000 H.size h21 rfl h26 (by omega) (by omega) (by omega) (by omega)) (cwV 1 hts gX9_test__X9_number rfl rfl rfl (by decide +kernel) ⟨Nat.le_of_ble_eq_true rfl, Nat.le_of_ble_eq_true rfl⟩) ⟨fun a U g mk q => by obtain ⟨q0, q1, qP, qK, qD⟩ := q; exact ⟨q0, q1, qP, va_K.moved (u := U) (U := U.calling g mk a) (Vm.Alike.refl U.vm) qK, qD⟩, va_recv hK hP (ci := 9) (q0 := 0) rfl rfl, fun U hU hW => ⟨rfl, by rw [hU], by rw [hU]; exact hP, va_K.moved hW.alike hK, hD.weaken (fun _ _ _ _ => trivial)⟩⟩ rfl rfl hl.1 rfl (lv_room (Nat.le_of_ble_eq_true rfl)) dX9_test__135 ⟨Nat.le_of_ble_eq_true rfl, Nat.le_of_ble_eq_true rfl⟩) hS (fun q _ h => hFc q h) hFc (fun r_606 u t H1 locs ht hvm w_607 hB hz1 hk1 hS => ?_)
        subst w_607
        obtain ⟨k21_608, p22_609, k25_610, q_611, q_612, q_613, q_614, q_615, q_616, hP1, hK1, hD1⟩ := hB
        replace q_615 : NUX ((fv 0)) n26 1000 (skB ((fv 0)) n26 e_604) k21_608 p22_609 k25_610 r_606 := q_615
        replace q_616 : k21_608 = 0 → p22_609 = (iv 22) := q_616
        rw [ht] at hP1
        have hK := va_K.moved hvm.symm hK1
        generalize H1 = H at hP1 hS ⊢
        have hP : va_P D vwCl (mw h0 ad cs (upd (upd (upd iv 21 (nI k21_608)) 22 p22_609) 25 (nI k25_610)) fv gv) H := hP1
        have hD : va_D A (mw h0 ad cs (upd (upd (upd iv 21 (nI k21_608)) 22 p22_609) 25 (nI k25_610)) fv gv) := hD1.weaken (fun _ _ _ h => hFc _ h)
        rcases q_614 with hp_617 | ⟨rfl, hg_619⟩
        · obtain ⟨P_622, hP_623, hnr_624⟩ := q_615.no (by omega)
          refine lv_istore (lv' := [(4, .int r_606), (3, .int (nI c_586)), (2, .int 0), (1, .int (nI c_9)), (0, .ref h0)]) hx hb dX9_test__138 hl (by decide) rfl (fun ls hl => ?_)
          refine lv_aload_n hx hb dX9_test__140 rfl (lv_at hl 4 rfl) ?_
          refine va_get (D := D) (ci := 9) (v := .int (nI k21_608)) (C := RX9) (T := TX9) (N := 44) hx hb hts hin9 hown hK hP 0 rfl rfl 21 (by decide) (hts (.fieldLink RX9 74 "HoneyHouseModel" "faultKind" "I") (List.mem_of_getElem? (i := 2) rfl)) (fun _ h9 => h9) rfl dX9_test__141 ?_
          refine lv_if_le (tgt := 148) hx hb dX9_test__144 (by decide) (fun c_625 => absurd c_625 (nI_nle (n := k21_608) (by omega) (by omega))) (fun c_625 => ?_)
          have hP : va_P D vwCl (mw h0 ad cs (upd (upd (upd (upd iv 21 (nI k21_608)) 22 p22_609) 25 (nI k25_610)) 30 (iv 30)) (uF fv 19 (fv 19)) gv) H := hP
          have hD : va_D A (mw h0 ad cs (upd (upd (upd (upd iv 21 (nI k21_608)) 22 p22_609) 25 (nI k25_610)) 30 (iv 30)) (uF fv 19 (fv 19)) gv) := hD
          have hP := hP
          rw [h30] at hP hD
          exact W.vret hx hb hr (fun t ht hW => ⟨⟨(), rfl, trivial, k21_608, p22_609, k25_610, n30, fv 19, by omega, by omega, by omega, Or.inl ⟨by omega, by omega, rfl⟩, (by rw [show skB (fv 0) n26 n25 = k25_3 from q_8.eq]; have h6 : skB (fv 0) n26 e_36 = nxF (fv 0) n26 k25_3 := (by rw [nxF, teF_1 (wdE_sp (by omega) hw_13).2, he_11.r, hq_e_36]); have h5 : nxF (fv 0) n26 k25_3 = k25_580 := h6.symm.trans q_585.eq; have h4 : skB (fv 0) n26 e_604 = nxF (fv 0) n26 k25_580 := (by rw [nxF, teF_1 (wdE_sp (by omega) hw_590).2, he_588.r, hq_e_604]); exact ⟨P_622, 0, c_586, 0, Or.inr ⟨k25_580, by rw [← h5]; exact (Or.inr (Or.inl ⟨by omega, by omega, rfl, rfl, by omega⟩) : whtR (fv 0) n26 k25_3 0 (nxF (fv 0) n26 k25_3) 0), Or.inr ⟨by omega, by omega, by rw [← h4]; exact hnr_624⟩⟩, fun h9 => by omega, fun _ => hP_623⟩), fun h9 => absurd h9 (by omega), by rw [ht]; exact hP, va_K.moved hW.alike hK, hD⟩, hS.F ht⟩) hS.2.2 dX9_test__147
        obtain ⟨v_620, hv_621, rfl, hnr_624⟩ := q_615.ok
        have pe_626 : p22_609 = iv 22 := q_616 rfl
        refine lv_istore (lv' := [(4, .int (nI v_620)), (3, .int (nI c_586)), (2, .int 0), (1, .int (nI c_9)), (0, .ref h0)]) hx hb dX9_test__138 hl (by decide) rfl (fun ls hl => ?_)
        refine lv_aload_n hx hb dX9_test__140 rfl (lv_at hl 4 rfl) ?_
        refine va_get (D := D) (ci := 9) (v := .int (nI 0)) (C := RX9) (T := TX9) (N := 44) hx hb hts hin9 hown hK hP 0 rfl rfl 21 (by decide) (hts (.fieldLink RX9 74 "HoneyHouseModel" "faultKind" "I") (List.mem_of_getElem? (i := 2) rfl)) (fun _ h9 => h9) rfl dX9_test__141 ?_
        refine lv_if_le (tgt := 148) hx hb dX9_test__144 (by decide) (fun c_627 => ?_) (fun c_627 => absurd (by decide) c_627)
        refine lv_aload_n hx hb dX9_test__148 rfl (lv_at hl 4 rfl) ?_
        refine lv_bipush (v := 13) hx hb dX9_test__149 (by decide) ?_
        have hFc := free_all hD hS hA
        refine va_callv (va_runV (As := [.int 13]) (rest := []) ⟨hx, hb, hml, hown, hts⟩ (m_add l D h0 ad cs (upd (upd (upd iv 21 (nI 0)) 22 p22_609) 25 (nI k25_610)) fv gv n14 n30 13 H.size h14 h30 (by omega) (by omega)) (cwV 1 hts gX9_test__X9_add rfl rfl rfl (by decide +kernel) ⟨Nat.le_of_ble_eq_true rfl, Nat.le_of_ble_eq_true rfl⟩) ⟨fun a U g mk q => by obtain ⟨q0, q1, qP, qK, qD⟩ := q; exact ⟨q0, q1, qP, va_K.moved (u := U) (U := U.calling g mk a) (Vm.Alike.refl U.vm) qK, qD⟩, va_recv hK hP (ci := 9) (q0 := 0) rfl rfl, fun U hU hW => ⟨rfl, by rw [hU], by rw [hU]; exact hP, va_K.moved hW.alike hK, hD.weaken (fun _ _ _ _ => trivial)⟩⟩ rfl rfl hl.1 rfl (lv_room (Nat.le_of_ble_eq_true rfl)) dX9_test__151 ⟨Nat.le_of_ble_eq_true rfl, Nat.le_of_ble_eq_true rfl⟩) hS (fun q _ h => hFc q h) hFc (fun u t H1 locs ht hvm w_629 hB hz1 hk1 hS => ?_)
        obtain ⟨f19_630, q_631, hP1, hK1, hD1⟩ := hB
        replace q_631 : f19_630 = upd ((fv 19)) (200 * n14 + n30) 13 := q_631
        rw [ht] at hP1
        have hK := va_K.moved hvm.symm hK1
        generalize H1 = H at hP1 hS ⊢
        have hP : va_P D vwCl (mw h0 ad cs (upd (upd (upd (upd iv 21 (nI 0)) 22 p22_609) 25 (nI k25_610)) 30 (nI (n30 + 1))) (uF fv 19 f19_630) gv) H := hP1
        have hD : va_D A (mw h0 ad cs (upd (upd (upd (upd iv 21 (nI 0)) 22 p22_609) 25 (nI k25_610)) 30 (nI (n30 + 1))) (uF fv 19 f19_630) gv) := hD1.weaken (fun _ _ _ h => hFc _ h)
        refine lv_aload_n hx hb dX9_test__154 rfl (lv_at hl 4 rfl) ?_
        refine lv_iload_n hx hb dX9_test__155 rfl (lv_at hl 2 rfl) ?_
        have hFc := free_all hD hS hA
        refine va_callv (va_runV (As := [.int 0]) (rest := []) ⟨hx, hb, hml, hown, hts⟩ (m_add l D h0 ad cs (upd (upd (upd (upd iv 21 (nI 0)) 22 p22_609) 25 (nI k25_610)) 30 (nI (n30 + 1))) (uF fv 19 f19_630) gv n14 (n30 + 1) 0 H.size h14 rfl (by omega) (by omega)) (cwV 1 hts gX9_test__X9_add rfl rfl rfl (by decide +kernel) ⟨Nat.le_of_ble_eq_true rfl, Nat.le_of_ble_eq_true rfl⟩) ⟨fun a U g mk q => by obtain ⟨q0, q1, qP, qK, qD⟩ := q; exact ⟨q0, q1, qP, va_K.moved (u := U) (U := U.calling g mk a) (Vm.Alike.refl U.vm) qK, qD⟩, va_recv hK hP (ci := 9) (q0 := 0) rfl rfl, fun U hU hW => ⟨rfl, by rw [hU], by rw [hU]; exact hP, va_K.moved hW.alike hK, hD.weaken (fun _ _ _ _ => trivial)⟩⟩ rfl rfl hl.1 rfl (lv_room (Nat.le_of_ble_eq_true rfl)) dX9_test__156 ⟨Nat.le_of_ble_eq_true rfl, Nat.le_of_ble_eq_true rfl⟩) hS (fun q _ h => hFc q h) hFc (fun u t H1 locs ht hvm w_633 hB hz1 hk1 hS => ?_)
        obtain ⟨f19_634, q_635, hP1, hK1, hD1⟩ := hB
        replace q_635 : f19_634 = upd ((f19_630)) (200 * n14 + (n30 + 1)) 0 := q_635
        rw [ht] at hP1
        have hK := va_K.moved hvm.symm hK1
        generalize H1 = H at hP1 hS ⊢
        have hP : va_P D vwCl (mw h0 ad cs (upd (upd (upd (upd iv 21 (nI 0)) 22 p22_609) 25 (nI k25_610)) 30 (nI ((n30 + 1) + 1))) (uF fv 19 f19_634) gv) H := hP1
        have hD : va_D A (mw h0 ad cs (upd (upd (upd (upd iv 21 (nI 0)) 22 p22_609) 25 (nI k25_610)) 30 (nI ((n30 + 1) + 1))) (uF fv 19 f19_634) gv) := hD1.weaken (fun _ _ _ h => hFc _ h)
        refine lv_aload_n hx hb dX9_test__159 rfl (lv_at hl 4 rfl) ?_
        refine lv_iload_n hx hb dX9_test__160 rfl (lv_at hl 1 rfl) ?_
        have hFc := free_all hD hS hA
        refine va_callv (va_runV (As := [.int (nI c_586)]) (rest := []) ⟨hx, hb, hml, hown, hts⟩ (m_add l D h0 ad cs (upd (upd (upd (upd iv 21 (nI 0)) 22 p22_609) 25 (nI k25_610)) 30 (nI ((n30 + 1) + 1))) (uF fv 19 f19_634) gv n14 ((n30 + 1) + 1) (nI c_586) H.size h14 rfl (by omega) (by omega)) (cwV 1 hts gX9_test__X9_add rfl rfl rfl (by decide +kernel) ⟨Nat.le_of_ble_eq_true rfl, Nat.le_of_ble_eq_true rfl⟩) ⟨fun a U g mk q => by obtain ⟨q0, q1, qP, qK, qD⟩ := q; exact ⟨q0, q1, qP, va_K.moved (u := U) (U := U.calling g mk a) (Vm.Alike.refl U.vm) qK, qD⟩, va_recv hK hP (ci := 9) (q0 := 0) rfl rfl, fun U hU hW => ⟨rfl, by rw [hU], by rw [hU]; exact hP, va_K.moved hW.alike hK, hD.weaken (fun _ _ _ _ => trivial)⟩⟩ rfl rfl hl.1 rfl (lv_room (Nat.le_of_ble_eq_true rfl)) dX9_test__161 ⟨Nat.le_of_ble_eq_true rfl, Nat.le_of_ble_eq_true rfl⟩) hS (fun q _ h => hFc q h) hFc (fun u t H1 locs ht hvm w_637 hB hz1 hk1 hS => ?_)
        obtain ⟨f19_638, q_639, hP1, hK1, hD1⟩ := hB
        replace q_639 : f19_638 = upd ((f19_634)) (200 * n14 + ((n30 + 1) + 1)) (nI c_586) := q_639
        rw [ht] at hP1
        have hK := va_K.moved hvm.symm hK1
        generalize H1 = H at hP1 hS ⊢
        have hP : va_P D vwCl (mw h0 ad cs (upd (upd (upd (upd iv 21 (nI 0)) 22 p22_609) 25 (nI k25_610)) 30 (nI (((n30 + 1) + 1) + 1))) (uF fv 19 f19_638) gv) H := hP1
        have hD : va_D A (mw h0 ad cs (upd (upd (upd (upd iv 21 (nI 0)) 22 p22_609) 25 (nI k25_610)) 30 (nI (((n30 + 1) + 1) + 1))) (uF fv 19 f19_638) gv) := hD1.weaken (fun _ _ _ h => hFc _ h)
        refine lv_aload_n hx hb dX9_test__164 rfl (lv_at hl 4 rfl) ?_
        refine lv_iload hx hb dX9_test__165 (lv_at hl 0 rfl) ?_
        have hFc := free_all hD hS hA
        refine va_callv (va_runV (As := [.int (nI v_620)]) (rest := []) ⟨hx, hb, hml, hown, hts⟩ (m_add l D h0 ad cs (upd (upd (upd (upd iv 21 (nI 0)) 22 p22_609) 25 (nI k25_610)) 30 (nI (((n30 + 1) + 1) + 1))) (uF fv 19 f19_638) gv n14 (((n30 + 1) + 1) + 1) (nI v_620) H.size h14 rfl (by omega) (by omega)) (cwV 1 hts gX9_test__X9_add rfl rfl rfl (by decide +kernel) ⟨Nat.le_of_ble_eq_true rfl, Nat.le_of_ble_eq_true rfl⟩) ⟨fun a U g mk q => by obtain ⟨q0, q1, qP, qK, qD⟩ := q; exact ⟨q0, q1, qP, va_K.moved (u := U) (U := U.calling g mk a) (Vm.Alike.refl U.vm) qK, qD⟩, va_recv hK hP (ci := 9) (q0 := 0) rfl rfl, fun U hU hW => ⟨rfl, by rw [hU], by rw [hU]; exact hP, va_K.moved hW.alike hK, hD.weaken (fun _ _ _ _ => trivial)⟩⟩ rfl rfl hl.1 rfl (lv_room (Nat.le_of_ble_eq_true rfl)) dX9_test__167 ⟨Nat.le_of_ble_eq_true rfl, Nat.le_of_ble_eq_true rfl⟩) hS (fun q _ h => hFc q h) hFc (fun u t H1 locs ht hvm w_641 hB hz1 hk1 hS => ?_)
        obtain ⟨f19_642, q_643, hP1, hK1, hD1⟩ := hB
        replace q_643 : f19_642 = upd ((f19_638)) (200 * n14 + (((n30 + 1) + 1) + 1)) (nI v_620) := q_643
        rw [ht] at hP1
        have hK := va_K.moved hvm.symm hK1
        generalize H1 = H at hP1 hS ⊢
        have hP : va_P D vwCl (mw h0 ad cs (upd (upd (upd (upd iv 21 (nI 0)) 22 p22_609) 25 (nI k25_610)) 30 (nI ((((n30 + 1) + 1) + 1) + 1))) (uF fv 19 f19_642) gv) H := hP1
        have hD : va_D A (mw h0 ad cs (upd (upd (upd (upd iv 21 (nI 0)) 22 p22_609) 25 (nI k25_610)) 30 (nI ((((n30 + 1) + 1) + 1) + 1))) (uF fv 19 f19_642) gv) := hD1.weaken (fun _ _ _ h => hFc _ h)
        have hP : va_P D vwCl (mw h0 ad cs (upd (upd (upd (upd iv 21 (nI 0)) 22 p22_609) 25 (nI k25_610)) 30 (nI ((((n30 + 1) + 1) + 1) + 1))) (uF fv 19 f19_642) gv) H := hP
        have hD : va_D A (mw h0 ad cs (upd (upd (upd (upd iv 21 (nI 0)) 22 p22_609) 25 (nI k25_610)) 30 (nI ((((n30 + 1) + 1) + 1) + 1))) (uF fv 19 f19_642) gv) := hD
        exact W.vret hx hb hr (fun t ht hW => ⟨⟨(), rfl, trivial, 0, p22_609, k25_610, (((n30 + 1) + 1) + 1) + 1, f19_642, by omega, by omega, by omega, Or.inr ⟨by omega, by omega, by omega, fun i h9 => by rw [q_643, up_ne (by omega), q_639, up_ne (by omega), q_635, up_ne (by omega), q_631, up_ne (by omega)], by rw [q_643, up_ne (by omega), q_639, up_ne (by omega), q_635, up_ne (by omega), q_631, up_eq], by rw [q_643, up_ne (by omega), q_639, up_ne (by omega), q_635, up_eq]; exact ⟨0, by omega, rfl⟩⟩, (by rw [show skB (fv 0) n26 n25 = k25_3 from q_8.eq]; have h6 : skB (fv 0) n26 e_36 = nxF (fv 0) n26 k25_3 := (by rw [nxF, teF_1 (wdE_sp (by omega) hw_13).2, he_11.r, hq_e_36]); have h5 : nxF (fv 0) n26 k25_3 = k25_580 := h6.symm.trans q_585.eq; have h4 : skB (fv 0) n26 e_604 = nxF (fv 0) n26 k25_580 := (by rw [nxF, teF_1 (wdE_sp (by omega) hw_590).2, he_588.r, hq_e_604]); exact ⟨skB (fv 0) n26 k25_610, 0, c_586, v_620, Or.inr ⟨k25_580, by rw [← h5]; exact (Or.inr (Or.inl ⟨by omega, by omega, rfl, rfl, by omega⟩) : whtR (fv 0) n26 k25_3 0 (nxF (fv 0) n26 k25_3) 0), Or.inr ⟨by omega, by omega, by rw [← h4]; exact hnr_624⟩⟩, fun _ => rfl, fun h9 => by omega⟩), fun _ => pe_626, by rw [ht]; exact hP, va_K.moved hW.alike hK, hD⟩, hS.F ht⟩) hS.2.2 dX9_test__170
      have d_644 := n_ne (a := c_586) (b := 9) (by omega) (by omega) c_600
      refine lv_iload_n hx hb dX9_test__107 rfl (lv_at hl 0 rfl) ?_
      refine lv_bipush (v := 10) hx hb dX9_test__108 (by decide) ?_
      refine lv_icmp_eq (tgt := 123) hx hb dX9_test__110 (by decide) (fun c_645 => ?_) (fun c_645 => ?_)
      · have d_646 := n_eq (a := c_586) (b := 10) (by omega) (by omega) c_645
        refine lv_aload_n hx hb dX9_test__123 rfl (lv_at hl 3 rfl) ?_
        refine lv_aload_n hx hb dX9_test__124 rfl (lv_at hl 3 rfl) ?_
        refine vp_callSi (W.runV (As := []) (rest := [.ref h0]) ⟨hx, hb, hml, hown, hts⟩ (m_wordEnd l D h0 ad cs (upd iv 25 (nI k25_580)) fv gv k25_580 n26  rfl h26 (by omega) (by omega)) (cwV 0 hts gX9_test__X9_wordEnd rfl rfl rfl (by decide +kernel) ⟨Nat.le_of_ble_eq_true rfl, Nat.le_of_ble_eq_true rfl⟩) ⟨fun a U g mk q => ⟨q.1, q.2.1, va_K.moved (u := U) (U := U.calling g mk a) (Vm.Alike.refl U.vm) q.2.2⟩, va_recv hK hP (ci := 9) (q0 := 0) rfl rfl, fun U hU hW => ⟨rfl, by rw [hU]; exact hP, va_K.moved hW.alike hK⟩⟩ rfl rfl hl.1 rfl (lv_room (Nat.le_of_ble_eq_true rfl)) dX9_test__125 ⟨Nat.le_of_ble_eq_true rfl, Nat.le_of_ble_eq_true rfl⟩) (fun r_647 k_648 => ?_)
        obtain ⟨e_649, rfl, he_650⟩ := k_648
        have hq_e_649 : e_649 = e_587 := he_650.uq he_588
        refine va_put (D := D) (ci := 9) (v := .int (nI e_649)) (ty := .int) (C := RX9) (T := TX9) (N := 44) hx hb hts hin9 tyX9 tyX9_ok nmX9 hown hK hP hD hS 0 rfl rfl 25 (by decide) (hts (.fieldLink RX9 87 "HoneyHouseModel" "at" "I") (List.mem_of_getElem? (i := 1) rfl)) (fun _ h9 => h9) rfl (tyX9_ok 25 (by decide)) rfl rfl (Nat.le_of_ble_eq_true rfl) dX9_test__128 (fun H locs hP hD hS => ?_)
        have hP : va_P D vwCl (mw h0 ad cs (upd iv 25 (nI e_649)) fv gv) H := hP
        have hD : va_D A (mw h0 ad cs (upd iv 25 (nI e_649)) fv gv) := hD
        refine lv_aload_n hx hb dX9_test__131 rfl (lv_at hl 3 rfl) ?_
        refine lv_sipush (v := 1000) hx hb dX9_test__132 (by decide) ?_
        have hFc := free_all hD hS hA
        refine va_calli (va_runV (As := [.int 1000]) (rest := []) ⟨hx, hb, hml, hown, hts⟩ (m_number l D h0 ad cs (upd iv 25 (nI e_649)) fv gv n21 e_649 n26 1000 H.size h21 rfl h26 (by omega) (by omega) (by omega) (by omega)) (cwV 1 hts gX9_test__X9_number rfl rfl rfl (by decide +kernel) ⟨Nat.le_of_ble_eq_true rfl, Nat.le_of_ble_eq_true rfl⟩) ⟨fun a U g mk q => by obtain ⟨q0, q1, qP, qK, qD⟩ := q; exact ⟨q0, q1, qP, va_K.moved (u := U) (U := U.calling g mk a) (Vm.Alike.refl U.vm) qK, qD⟩, va_recv hK hP (ci := 9) (q0 := 0) rfl rfl, fun U hU hW => ⟨rfl, by rw [hU], by rw [hU]; exact hP, va_K.moved hW.alike hK, hD.weaken (fun _ _ _ _ => trivial)⟩⟩ rfl rfl hl.1 rfl (lv_room (Nat.le_of_ble_eq_true rfl)) dX9_test__135 ⟨Nat.le_of_ble_eq_true rfl, Nat.le_of_ble_eq_true rfl⟩) hS (fun q _ h => hFc q h) hFc (fun r_651 u t H1 locs ht hvm w_652 hB hz1 hk1 hS => ?_)
        subst w_652
        obtain ⟨k21_653, p22_654, k25_655, q_656, q_657, q_658, q_659, q_660, q_661, hP1, hK1, hD1⟩ := hB
        replace q_660 : NUX ((fv 0)) n26 1000 (skB ((fv 0)) n26 e_649) k21_653 p22_654 k25_655 r_651 := q_660
        replace q_661 : k21_653 = 0 → p22_654 = (iv 22) := q_661
        rw [ht] at hP1
        have hK := va_K.moved hvm.symm hK1
        generalize H1 = H at hP1 hS ⊢
        have hP : va_P D vwCl (mw h0 ad cs (upd (upd (upd iv 21 (nI k21_653)) 22 p22_654) 25 (nI k25_655)) fv gv) H := hP1
        have hD : va_D A (mw h0 ad cs (upd (upd (upd iv 21 (nI k21_653)) 22 p22_654) 25 (nI k25_655)) fv gv) := hD1.weaken (fun _ _ _ h => hFc _ h)
        rcases q_659 with hp_662 | ⟨rfl, hg_664⟩
        · obtain ⟨P_667, hP_668, hnr_669⟩ := q_660.no (by omega)
          refine lv_istore (lv' := [(4, .int r_651), (3, .int (nI c_586)), (2, .int 0), (1, .int (nI c_9)), (0, .ref h0)]) hx hb dX9_test__138 hl (by decide) rfl (fun ls hl => ?_)
          refine lv_aload_n hx hb dX9_test__140 rfl (lv_at hl 4 rfl) ?_
          refine va_get (D := D) (ci := 9) (v := .int (nI k21_653)) (C := RX9) (T := TX9) (N := 44) hx hb hts hin9 hown hK hP 0 rfl rfl 21 (by decide) (hts (.fieldLink RX9 74 "HoneyHouseModel" "faultKind" "I") (List.mem_of_getElem? (i := 2) rfl)) (fun _ h9 => h9) rfl dX9_test__141 ?_
          refine lv_if_le (tgt := 148) hx hb dX9_test__144 (by decide) (fun c_670 => absurd c_670 (nI_nle (n := k21_653) (by omega) (by omega))) (fun c_670 => ?_)
          have hP : va_P D vwCl (mw h0 ad cs (upd (upd (upd (upd iv 21 (nI k21_653)) 22 p22_654) 25 (nI k25_655)) 30 (iv 30)) (uF fv 19 (fv 19)) gv) H := hP
          have hD : va_D A (mw h0 ad cs (upd (upd (upd (upd iv 21 (nI k21_653)) 22 p22_654) 25 (nI k25_655)) 30 (iv 30)) (uF fv 19 (fv 19)) gv) := hD
          have hP := hP
          rw [h30] at hP hD
          exact W.vret hx hb hr (fun t ht hW => ⟨⟨(), rfl, trivial, k21_653, p22_654, k25_655, n30, fv 19, by omega, by omega, by omega, Or.inl ⟨by omega, by omega, rfl⟩, (by rw [show skB (fv 0) n26 n25 = k25_3 from q_8.eq]; have h6 : skB (fv 0) n26 e_36 = nxF (fv 0) n26 k25_3 := (by rw [nxF, teF_1 (wdE_sp (by omega) hw_13).2, he_11.r, hq_e_36]); have h5 : nxF (fv 0) n26 k25_3 = k25_580 := h6.symm.trans q_585.eq; have h4 : skB (fv 0) n26 e_649 = nxF (fv 0) n26 k25_580 := (by rw [nxF, teF_1 (wdE_sp (by omega) hw_590).2, he_588.r, hq_e_649]); exact ⟨P_667, 0, c_586, 0, Or.inr ⟨k25_580, by rw [← h5]; exact (Or.inr (Or.inl ⟨by omega, by omega, rfl, rfl, by omega⟩) : whtR (fv 0) n26 k25_3 0 (nxF (fv 0) n26 k25_3) 0), Or.inr ⟨by omega, by omega, by rw [← h4]; exact hnr_669⟩⟩, fun h9 => by omega, fun _ => hP_668⟩), fun h9 => absurd h9 (by omega), by rw [ht]; exact hP, va_K.moved hW.alike hK, hD⟩, hS.F ht⟩) hS.2.2 dX9_test__147
        obtain ⟨v_665, hv_666, rfl, hnr_669⟩ := q_660.ok
        have pe_671 : p22_654 = iv 22 := q_661 rfl
        refine lv_istore (lv' := [(4, .int (nI v_665)), (3, .int (nI c_586)), (2, .int 0), (1, .int (nI c_9)), (0, .ref h0)]) hx hb dX9_test__138 hl (by decide) rfl (fun ls hl => ?_)
        refine lv_aload_n hx hb dX9_test__140 rfl (lv_at hl 4 rfl) ?_
        refine va_get (D := D) (ci := 9) (v := .int (nI 0)) (C := RX9) (T := TX9) (N := 44) hx hb hts hin9 hown hK hP 0 rfl rfl 21 (by decide) (hts (.fieldLink RX9 74 "HoneyHouseModel" "faultKind" "I") (List.mem_of_getElem? (i := 2) rfl)) (fun _ h9 => h9) rfl dX9_test__141 ?_
        refine lv_if_le (tgt := 148) hx hb dX9_test__144 (by decide) (fun c_672 => ?_) (fun c_672 => absurd (by decide) c_672)
        refine lv_aload_n hx hb dX9_test__148 rfl (lv_at hl 4 rfl) ?_
        refine lv_bipush (v := 13) hx hb dX9_test__149 (by decide) ?_
        have hFc := free_all hD hS hA
        refine va_callv (va_runV (As := [.int 13]) (rest := []) ⟨hx, hb, hml, hown, hts⟩ (m_add l D h0 ad cs (upd (upd (upd iv 21 (nI 0)) 22 p22_654) 25 (nI k25_655)) fv gv n14 n30 13 H.size h14 h30 (by omega) (by omega)) (cwV 1 hts gX9_test__X9_add rfl rfl rfl (by decide +kernel) ⟨Nat.le_of_ble_eq_true rfl, Nat.le_of_ble_eq_true rfl⟩) ⟨fun a U g mk q => by obtain ⟨q0, q1, qP, qK, qD⟩ := q; exact ⟨q0, q1, qP, va_K.moved (u := U) (U := U.calling g mk a) (Vm.Alike.refl U.vm) qK, qD⟩, va_recv hK hP (ci := 9) (q0 := 0) rfl rfl, fun U hU hW => ⟨rfl, by rw [hU], by rw [hU]; exact hP, va_K.moved hW.alike hK, hD.weaken (fun _ _ _ _ => trivial)⟩⟩ rfl rfl hl.1 rfl (lv_room (Nat.le_of_ble_eq_true rfl)) dX9_test__151 ⟨Nat.le_of_ble_eq_true rfl, Nat.le_of_ble_eq_true rfl⟩) hS (fun q _ h => hFc q h) hFc (fun u t H1 locs ht hvm w_674 hB hz1 hk1 hS => ?_)
        obtain ⟨f19_675, q_676, hP1, hK1, hD1⟩ := hB
        replace q_676 : f19_675 = upd ((fv 19)) (200 * n14 + n30) 13 := q_676
        rw [ht] at hP1
        have hK := va_K.moved hvm.symm hK1
        generalize H1 = H at hP1 hS ⊢
        have hP : va_P D vwCl (mw h0 ad cs (upd (upd (upd (upd iv 21 (nI 0)) 22 p22_654) 25 (nI k25_655)) 30 (nI (n30 + 1))) (uF fv 19 f19_675) gv) H := hP1
        have hD : va_D A (mw h0 ad cs (upd (upd (upd (upd iv 21 (nI 0)) 22 p22_654) 25 (nI k25_655)) 30 (nI (n30 + 1))) (uF fv 19 f19_675) gv) := hD1.weaken (fun _ _ _ h => hFc _ h)
        refine lv_aload_n hx hb dX9_test__154 rfl (lv_at hl 4 rfl) ?_
        refine lv_iload_n hx hb dX9_test__155 rfl (lv_at hl 2 rfl) ?_
        have hFc := free_all hD hS hA
        refine va_callv (va_runV (As := [.int 0]) (rest := []) ⟨hx, hb, hml, hown, hts⟩ (m_add l D h0 ad cs (upd (upd (upd (upd iv 21 (nI 0)) 22 p22_654) 25 (nI k25_655)) 30 (nI (n30 + 1))) (uF fv 19 f19_675) gv n14 (n30 + 1) 0 H.size h14 rfl (by omega) (by omega)) (cwV 1 hts gX9_test__X9_add rfl rfl rfl (by decide +kernel) ⟨Nat.le_of_ble_eq_true rfl, Nat.le_of_ble_eq_true rfl⟩) ⟨fun a U g mk q => by obtain ⟨q0, q1, qP, qK, qD⟩ := q; exact ⟨q0, q1, qP, va_K.moved (u := U) (U := U.calling g mk a) (Vm.Alike.refl U.vm) qK, qD⟩, va_recv hK hP (ci := 9) (q0 := 0) rfl rfl, fun U hU hW => ⟨rfl, by rw [hU], by rw [hU]; exact hP, va_K.moved hW.alike hK, hD.weaken (fun _ _ _ _ => trivial)⟩⟩ rfl rfl hl.1 rfl (lv_room (Nat.le_of_ble_eq_true rfl)) dX9_test__156 ⟨Nat.le_of_ble_eq_true rfl, Nat.le_of_ble_eq_true rfl⟩) hS (fun q _ h => hFc q h) hFc (fun u t H1 locs ht hvm w_678 hB hz1 hk1 hS => ?_)
        obtain ⟨f19_679, q_680, hP1, hK1, hD1⟩ := hB
        replace q_680 : f19_679 = upd ((f19_675)) (200 * n14 + (n30 + 1)) 0 := q_680
        rw [ht] at hP1
        have hK := va_K.moved hvm.symm hK1
        generalize H1 = H at hP1 hS ⊢
        have hP : va_P D vwCl (mw h0 ad cs (upd (upd (upd (upd iv 21 (nI 0)) 22 p22_654) 25 (nI k25_655)) 30 (nI ((n30 + 1) + 1))) (uF fv 19 f19_679) gv) H := hP1
        have hD : va_D A (mw h0 ad cs (upd (upd (upd (upd iv 21 (nI 0)) 22 p22_654) 25 (nI k25_655)) 30 (nI ((n30 + 1) + 1))) (uF fv 19 f19_679) gv) := hD1.weaken (fun _ _ _ h => hFc _ h)
        refine lv_aload_n hx hb dX9_test__159 rfl (lv_at hl 4 rfl) ?_
        refine lv_iload_n hx hb dX9_test__160 rfl (lv_at hl 1 rfl) ?_
        have hFc := free_all hD hS hA
        refine va_callv (va_runV (As := [.int (nI c_586)]) (rest := []) ⟨hx, hb, hml, hown, hts⟩ (m_add l D h0 ad cs (upd (upd (upd (upd iv 21 (nI 0)) 22 p22_654) 25 (nI k25_655)) 30 (nI ((n30 + 1) + 1))) (uF fv 19 f19_679) gv n14 ((n30 + 1) + 1) (nI c_586) H.size h14 rfl (by omega) (by omega)) (cwV 1 hts gX9_test__X9_add rfl rfl rfl (by decide +kernel) ⟨Nat.le_of_ble_eq_true rfl, Nat.le_of_ble_eq_true rfl⟩) ⟨fun a U g mk q => by obtain ⟨q0, q1, qP, qK, qD⟩ := q; exact ⟨q0, q1, qP, va_K.moved (u := U) (U := U.calling g mk a) (Vm.Alike.refl U.vm) qK, qD⟩, va_recv hK hP (ci := 9) (q0 := 0) rfl rfl, fun U hU hW => ⟨rfl, by rw [hU], by rw [hU]; exact hP, va_K.moved hW.alike hK, hD.weaken (fun _ _ _ _ => trivial)⟩⟩ rfl rfl hl.1 rfl (lv_room (Nat.le_of_ble_eq_true rfl)) dX9_test__161 ⟨Nat.le_of_ble_eq_true rfl, Nat.le_of_ble_eq_true rfl⟩) hS (fun q _ h => hFc q h) hFc (fun u t H1 locs ht hvm w_682 hB hz1 hk1 hS => ?_)
        obtain ⟨f19_683, q_684, hP1, hK1, hD1⟩ := hB
        replace q_684 : f19_683 = upd ((f19_679)) (200 * n14 + ((n30 + 1) + 1)) (nI c_586) := q_684
        rw [ht] at hP1
        have hK := va_K.moved hvm.symm hK1
        generalize H1 = H at hP1 hS ⊢
        have hP : va_P D vwCl (mw h0 ad cs (upd (upd (upd (upd iv 21 (nI 0)) 22 p22_654) 25 (nI k25_655)) 30 (nI (((n30 + 1) + 1) + 1))) (uF fv 19 f19_683) gv) H := hP1
        have hD : va_D A (mw h0 ad cs (upd (upd (upd (upd iv 21 (nI 0)) 22 p22_654) 25 (nI k25_655)) 30 (nI (((n30 + 1) + 1) + 1))) (uF fv 19 f19_683) gv) := hD1.weaken (fun _ _ _ h => hFc _ h)
        refine lv_aload_n hx hb dX9_test__164 rfl (lv_at hl 4 rfl) ?_
        refine lv_iload hx hb dX9_test__165 (lv_at hl 0 rfl) ?_
        have hFc := free_all hD hS hA
        refine va_callv (va_runV (As := [.int (nI v_665)]) (rest := []) ⟨hx, hb, hml, hown, hts⟩ (m_add l D h0 ad cs (upd (upd (upd (upd iv 21 (nI 0)) 22 p22_654) 25 (nI k25_655)) 30 (nI (((n30 + 1) + 1) + 1))) (uF fv 19 f19_683) gv n14 (((n30 + 1) + 1) + 1) (nI v_665) H.size h14 rfl (by omega) (by omega)) (cwV 1 hts gX9_test__X9_add rfl rfl rfl (by decide +kernel) ⟨Nat.le_of_ble_eq_true rfl, Nat.le_of_ble_eq_true rfl⟩) ⟨fun a U g mk q => by obtain ⟨q0, q1, qP, qK, qD⟩ := q; exact ⟨q0, q1, qP, va_K.moved (u := U) (U := U.calling g mk a) (Vm.Alike.refl U.vm) qK, qD⟩, va_recv hK hP (ci := 9) (q0 := 0) rfl rfl, fun U hU hW => ⟨rfl, by rw [hU], by rw [hU]; exact hP, va_K.moved hW.alike hK, hD.weaken (fun _ _ _ _ => trivial)⟩⟩ rfl rfl hl.1 rfl (lv_room (Nat.le_of_ble_eq_true rfl)) dX9_test__167 ⟨Nat.le_of_ble_eq_true rfl, Nat.le_of_ble_eq_true rfl⟩) hS (fun q _ h => hFc q h) hFc (fun u t H1 locs ht hvm w_686 hB hz1 hk1 hS => ?_)
        obtain ⟨f19_687, q_688, hP1, hK1, hD1⟩ := hB
        replace q_688 : f19_687 = upd ((f19_683)) (200 * n14 + (((n30 + 1) + 1) + 1)) (nI v_665) := q_688
        rw [ht] at hP1
        have hK := va_K.moved hvm.symm hK1
        generalize H1 = H at hP1 hS ⊢
        have hP : va_P D vwCl (mw h0 ad cs (upd (upd (upd (upd iv 21 (nI 0)) 22 p22_654) 25 (nI k25_655)) 30 (nI ((((n30 + 1) + 1) + 1) + 1))) (uF fv 19 f19_687) gv) H := hP1
        have hD : va_D A (mw h0 ad cs (upd (upd (upd (upd iv 21 (nI 0)) 22 p22_654) 25 (nI k25_655)) 30 (nI ((((n30 + 1) + 1) + 1) + 1))) (uF fv 19 f19_687) gv) := hD1.weaken (fun _ _ _ h => hFc _ h)
        have hP : va_P D vwCl (mw h0 ad cs (upd (upd (upd (upd iv 21 (nI 0)) 22 p22_654) 25 (nI k25_655)) 30 (nI ((((n30 + 1) + 1) + 1) + 1))) (uF fv 19 f19_687) gv) H := hP
        have hD : va_D A (mw h0 ad cs (upd (upd (upd (upd iv 21 (nI 0)) 22 p22_654) 25 (nI k25_655)) 30 (nI ((((n30 + 1) + 1) + 1) + 1))) (uF fv 19 f19_687) gv) := hD
        exact W.vret hx hb hr (fun t ht hW => ⟨⟨(), rfl, trivial, 0, p22_654, k25_655, (((n30 + 1) + 1) + 1) + 1, f19_687, by omega, by omega, by omega, Or.inr ⟨by omega, by omega, by omega, fun i h9 => by rw [q_688, up_ne (by omega), q_684, up_ne (by omega), q_680, up_ne (by omega), q_676, up_ne (by omega)], by rw [q_688, up_ne (by omega), q_684, up_ne (by omega), q_680, up_ne (by omega), q_676, up_eq], by rw [q_688, up_ne (by omega), q_684, up_ne (by omega), q_680, up_eq]; exact ⟨0, by omega, rfl⟩⟩, (by rw [show skB (fv 0) n26 n25 = k25_3 from q_8.eq]; have h6 : skB (fv 0) n26 e_36 = nxF (fv 0) n26 k25_3 := (by rw [nxF, teF_1 (wdE_sp (by omega) hw_13).2, he_11.r, hq_e_36]); have h5 : nxF (fv 0) n26 k25_3 = k25_580 := h6.symm.trans q_585.eq; have h4 : skB (fv 0) n26 e_649 = nxF (fv 0) n26 k25_580 := (by rw [nxF, teF_1 (wdE_sp (by omega) hw_590).2, he_588.r, hq_e_649]); exact ⟨skB (fv 0) n26 k25_655, 0, c_586, v_665, Or.inr ⟨k25_580, by rw [← h5]; exact (Or.inr (Or.inl ⟨by omega, by omega, rfl, rfl, by omega⟩) : whtR (fv 0) n26 k25_3 0 (nxF (fv 0) n26 k25_3) 0), Or.inr ⟨by omega, by omega, by rw [← h4]; exact hnr_669⟩⟩, fun _ => rfl, fun h9 => by omega⟩), fun _ => pe_671, by rw [ht]; exact hP, va_K.moved hW.alike hK, hD⟩, hS.F ht⟩) hS.2.2 dX9_test__170
      have d_689 := n_ne (a := c_586) (b := 10) (by omega) (by omega) c_645
      refine lv_aload_n hx hb dX9_test__113 rfl (lv_at hl 3 rfl) ?_
      refine lv_iconst (v := 1) hx hb dX9_test__114 (by decide) ?_
      refine lv_aload_n hx hb dX9_test__115 rfl (lv_at hl 3 rfl) ?_
      refine va_get (D := D) (ci := 9) (v := .int (nI k25_580)) (C := RX9) (T := TX9) (N := 44) hx hb hts hin9 hown hK hP 0 rfl rfl 25 (by decide) (hts (.fieldLink RX9 87 "HoneyHouseModel" "at" "I") (List.mem_of_getElem? (i := 1) rfl)) (fun _ h9 => h9) rfl dX9_test__116 ?_
      have hFc := free_all hD hS hA
      refine va_callv (va_runV (As := [.int 1, .int (nI k25_580)]) (rest := []) ⟨hx, hb, hml, hown, hts⟩ (m_blame l D h0 ad cs (upd iv 25 (nI k25_580)) fv gv n21 1 (nI k25_580) H.size h21 (by omega) (by omega)) (cwV 2 hts gX9_test__X9_blame rfl rfl rfl (by decide +kernel) ⟨Nat.le_of_ble_eq_true rfl, Nat.le_of_ble_eq_true rfl⟩) ⟨fun a U g mk q => by obtain ⟨q0, q1, qP, qK, qD⟩ := q; exact ⟨q0, q1, qP, va_K.moved (u := U) (U := U.calling g mk a) (Vm.Alike.refl U.vm) qK, qD⟩, va_recv hK hP (ci := 9) (q0 := 0) rfl rfl, fun U hU hW => ⟨rfl, by rw [hU], by rw [hU]; exact hP, va_K.moved hW.alike hK, hD.weaken (fun _ _ _ _ => trivial)⟩⟩ rfl rfl hl.1 rfl (lv_room (Nat.le_of_ble_eq_true rfl)) dX9_test__119 ⟨Nat.le_of_ble_eq_true rfl, Nat.le_of_ble_eq_true rfl⟩) hS (fun q _ h => hFc q h) hFc (fun u t H1 locs ht hvm w_691 hB hz1 hk1 hS => ?_)
      obtain ⟨k21_692, p22_693, q_694, q_695, q_696, hP1, hK1, hD1⟩ := hB
      replace q_696 : (n21 = 0 → k21_692 = 1 ∧ p22_693 = (nI k25_580)) ∧ (¬ n21 = 0 → k21_692 = n21 ∧ p22_693 = (iv 22)) := q_696
      rw [ht] at hP1
      have hK := va_K.moved hvm.symm hK1
      generalize H1 = H at hP1 hS ⊢
      have hP : va_P D vwCl (mw h0 ad cs (upd (upd (upd iv 21 (nI k21_692)) 22 p22_693) 25 (nI k25_580)) fv gv) H := hP1
      have hD : va_D A (mw h0 ad cs (upd (upd (upd iv 21 (nI k21_692)) 22 p22_693) 25 (nI k25_580)) fv gv) := hD1.weaken (fun _ _ _ h => hFc _ h)
      have hP : va_P D vwCl (mw h0 ad cs (upd (upd (upd (upd iv 21 (nI k21_692)) 22 p22_693) 25 (nI k25_580)) 30 (iv 30)) (uF fv 19 (fv 19)) gv) H := hP
      have hD : va_D A (mw h0 ad cs (upd (upd (upd (upd iv 21 (nI k21_692)) 22 p22_693) 25 (nI k25_580)) 30 (iv 30)) (uF fv 19 (fv 19)) gv) := hD
      have hP := hP
      rw [h30] at hP hD
      exact W.vret hx hb hr (fun t ht hW => ⟨⟨(), rfl, trivial, k21_692, p22_693, k25_580, n30, fv 19, by omega, by omega, by omega, Or.inl ⟨by omega, by omega, rfl⟩, (by rw [show skB (fv 0) n26 n25 = k25_3 from q_8.eq]; have h6 : skB (fv 0) n26 e_36 = nxF (fv 0) n26 k25_3 := (by rw [nxF, teF_1 (wdE_sp (by omega) hw_13).2, he_11.r, hq_e_36]); have h5 : nxF (fv 0) n26 k25_3 = k25_580 := h6.symm.trans q_585.eq; exact ⟨k25_580, 0, 0, 0, Or.inr ⟨k25_580, by rw [← h5]; exact (Or.inr (Or.inl ⟨by omega, by omega, rfl, rfl, by omega⟩) : whtR (fv 0) n26 k25_3 0 (nxF (fv 0) n26 k25_3) 0), Or.inl ⟨by omega, (q_696.1 (by omega)).1, rfl⟩⟩, fun h9 => by omega, fun _ => (q_696.1 (by omega)).2⟩), fun h9 => absurd h9 (by omega), by rw [ht]; exact hP, va_K.moved hW.alike hK, hD⟩, hS.F ht⟩) hS.2.2 dX9_test__122
    have d_697 := n_nle (a := n21) (b := 0) (by omega) (by omega) c_576
    have hP : va_P D vwCl (mw h0 ad cs (upd (upd (upd (upd iv 21 (iv 21)) 22 (iv 22)) 25 (nI e_36)) 30 (iv 30)) (uF fv 19 (fv 19)) gv) H := hP
    have hD : va_D A (mw h0 ad cs (upd (upd (upd (upd iv 21 (iv 21)) 22 (iv 22)) 25 (nI e_36)) 30 (iv 30)) (uF fv 19 (fv 19)) gv) := hD
    have hP := hP
    have hP := hP
    rw [h21, h30] at hP hD
    exact W.vret hx hb hr (fun t ht hW => ⟨⟨(), rfl, trivial, n21, iv 22, e_36, n30, fv 19, by omega, by omega, by omega, Or.inl ⟨by omega, by omega, rfl⟩, (by exfalso; omega), fun h9 => absurd h9 (by omega), by rw [ht]; exact hP, va_K.moved hW.alike hK, hD⟩, hS.F ht⟩) hS.2.2 dX9_test__95
  have d_698 := n_nle (a := c_9) (b := 8) (by omega) (by omega) c_32
  refine lv_aload_n hx hb dX9_test__16 rfl (lv_at hl 1 rfl) ?_
  refine lv_iconst (v := 1) hx hb dX9_test__17 (by decide) ?_
  refine lv_aload_n hx hb dX9_test__18 rfl (lv_at hl 1 rfl) ?_
  refine va_get (D := D) (ci := 9) (v := .int (nI k25_3)) (C := RX9) (T := TX9) (N := 44) hx hb hts hin9 hown hK hP 0 rfl rfl 25 (by decide) (hts (.fieldLink RX9 87 "HoneyHouseModel" "at" "I") (List.mem_of_getElem? (i := 1) rfl)) (fun _ h9 => h9) rfl dX9_test__19 ?_
  have hFc := free_all hD hS hA
  refine va_callv (va_runV (As := [.int 1, .int (nI k25_3)]) (rest := []) ⟨hx, hb, hml, hown, hts⟩ (m_blame l D h0 ad cs (upd iv 25 (nI k25_3)) fv gv n21 1 (nI k25_3) H.size h21 (by omega) (by omega)) (cwV 2 hts gX9_test__X9_blame rfl rfl rfl (by decide +kernel) ⟨Nat.le_of_ble_eq_true rfl, Nat.le_of_ble_eq_true rfl⟩) ⟨fun a U g mk q => by obtain ⟨q0, q1, qP, qK, qD⟩ := q; exact ⟨q0, q1, qP, va_K.moved (u := U) (U := U.calling g mk a) (Vm.Alike.refl U.vm) qK, qD⟩, va_recv hK hP (ci := 9) (q0 := 0) rfl rfl, fun U hU hW => ⟨rfl, by rw [hU], by rw [hU]; exact hP, va_K.moved hW.alike hK, hD.weaken (fun _ _ _ _ => trivial)⟩⟩ rfl rfl hl.1 rfl (lv_room (Nat.le_of_ble_eq_true rfl)) dX9_test__22 ⟨Nat.le_of_ble_eq_true rfl, Nat.le_of_ble_eq_true rfl⟩) hS (fun q _ h => hFc q h) hFc (fun u t H1 locs ht hvm w_700 hB hz1 hk1 hS => ?_)
  obtain ⟨k21_701, p22_702, q_703, q_704, q_705, hP1, hK1, hD1⟩ := hB
  replace q_705 : (n21 = 0 → k21_701 = 1 ∧ p22_702 = (nI k25_3)) ∧ (¬ n21 = 0 → k21_701 = n21 ∧ p22_702 = (iv 22)) := q_705
  rw [ht] at hP1
  have hK := va_K.moved hvm.symm hK1
  generalize H1 = H at hP1 hS ⊢
  have hP : va_P D vwCl (mw h0 ad cs (upd (upd (upd iv 21 (nI k21_701)) 22 p22_702) 25 (nI k25_3)) fv gv) H := hP1
  have hD : va_D A (mw h0 ad cs (upd (upd (upd iv 21 (nI k21_701)) 22 p22_702) 25 (nI k25_3)) fv gv) := hD1.weaken (fun _ _ _ h => hFc _ h)
  have hP : va_P D vwCl (mw h0 ad cs (upd (upd (upd (upd iv 21 (nI k21_701)) 22 p22_702) 25 (nI k25_3)) 30 (iv 30)) (uF fv 19 (fv 19)) gv) H := hP
  have hD : va_D A (mw h0 ad cs (upd (upd (upd (upd iv 21 (nI k21_701)) 22 p22_702) 25 (nI k25_3)) 30 (iv 30)) (uF fv 19 (fv 19)) gv) := hD
  have hP := hP
  rw [h30] at hP hD
  exact W.vret hx hb hr (fun t ht hW => ⟨⟨(), rfl, trivial, k21_701, p22_702, k25_3, n30, fv 19, by omega, by omega, by omega, Or.inl ⟨by omega, by omega, rfl⟩, (by rw [show skB (fv 0) n26 n25 = k25_3 from q_8.eq]; exact ⟨k25_3, 0, 0, 0, Or.inl ⟨0, Or.inl ⟨by omega, (q_705.1 (by omega)).1, rfl⟩, by omega⟩, fun h9 => by omega, fun _ => (q_705.1 (by omega)).2⟩), fun h9 => absurd h9 (by omega), by rw [ht]; exact hP, va_K.moved hW.alike hK, hD⟩, hS.F ht⟩) hS.2.2 dX9_test__25
