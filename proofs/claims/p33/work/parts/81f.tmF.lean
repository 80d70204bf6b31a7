theorem dt_Ru_readFact_0 : decode prog_10_method_7_code 0 = .ok (.aload_n 1, 1) := by decide +kernel
theorem dt_Ru_readFact_1 : decode prog_10_method_7_code 1 = .ok (.getfield 53, 3) := by decide +kernel
theorem dt_Ru_readFact_4 : decode prog_10_method_7_code 4 = .ok (.bipush 91, 2) := by decide +kernel
theorem dt_Ru_readFact_6 : decode prog_10_method_7_code 6 = .ok (.if_icmp .ne 7, 3) := by decide +kernel
theorem dt_Ru_readFact_9 : decode prog_10_method_7_code 9 = .ok (.iconst 1, 1) := by decide +kernel
theorem dt_Ru_readFact_10 : decode prog_10_method_7_code 10 = .ok (.goto 4, 3) := by decide +kernel
theorem dt_Ru_readFact_13 : decode prog_10_method_7_code 13 = .ok (.iconst 0, 1) := by decide +kernel
theorem dt_Ru_readFact_14 : decode prog_10_method_7_code 14 = .ok (.istore_n 3, 1) := by decide +kernel
theorem dt_Ru_readFact_15 : decode prog_10_method_7_code 15 = .ok (.iload_n 3, 1) := by decide +kernel
theorem dt_Ru_readFact_16 : decode prog_10_method_7_code 16 = .ok (.ifCond .ne 59, 3) := by decide +kernel
theorem dt_Ru_readFact_19 : decode prog_10_method_7_code 19 = .ok (.aload_n 1, 1) := by decide +kernel
theorem dt_Ru_readFact_20 : decode prog_10_method_7_code 20 = .ok (.getfield 30, 3) := by decide +kernel
theorem dt_Ru_readFact_23 : decode prog_10_method_7_code 23 = .ok (.bipush 14, 2) := by decide +kernel
theorem dt_Ru_readFact_25 : decode prog_10_method_7_code 25 = .ok (.if_icmp .eq 50, 3) := by decide +kernel
theorem dt_Ru_readFact_28 : decode prog_10_method_7_code 28 = .ok (.aload_n 0, 1) := by decide +kernel
theorem dt_Ru_readFact_29 : decode prog_10_method_7_code 29 = .ok (.aload_n 1, 1) := by decide +kernel
theorem dt_Ru_readFact_30 : decode prog_10_method_7_code 30 = .ok (.invokevirtual 40, 3) := by decide +kernel
theorem dt_Ru_readFact_33 : decode prog_10_method_7_code 33 = .ok (.aload_n 1, 1) := by decide +kernel
theorem dt_Ru_readFact_34 : decode prog_10_method_7_code 34 = .ok (.getfield 53, 3) := by decide +kernel
theorem dt_Ru_readFact_37 : decode prog_10_method_7_code 37 = .ok (.invokestatic 68, 3) := by decide +kernel
theorem dt_Ru_readFact_40 : decode prog_10_method_7_code 40 = .ok (.istore 4, 2) := by decide +kernel
theorem dt_Ru_readFact_42 : decode prog_10_method_7_code 42 = .ok (.iload 4, 2) := by decide +kernel
theorem dt_Ru_readFact_44 : decode prog_10_method_7_code 44 = .ok (.ifCond .ne 8, 3) := by decide +kernel
theorem dt_Ru_readFact_47 : decode prog_10_method_7_code 47 = .ok (.aload_n 1, 1) := by decide +kernel
theorem dt_Ru_readFact_48 : decode prog_10_method_7_code 48 = .ok (.iconst 0, 1) := by decide +kernel
theorem dt_Ru_readFact_49 : decode prog_10_method_7_code 49 = .ok (.invokevirtual 33, 3) := by decide +kernel
theorem dt_Ru_readFact_52 : decode prog_10_method_7_code 52 = .ok (.aload_n 0, 1) := by decide +kernel
theorem dt_Ru_readFact_53 : decode prog_10_method_7_code 53 = .ok (.aload_n 1, 1) := by decide +kernel
theorem dt_Ru_readFact_54 : decode prog_10_method_7_code 54 = .ok (.invokevirtual 72, 3) := by decide +kernel
theorem dt_Ru_readFact_57 : decode prog_10_method_7_code 57 = .ok (.aload_n 1, 1) := by decide +kernel
theorem dt_Ru_readFact_58 : decode prog_10_method_7_code 58 = .ok (.invokevirtual 37, 3) := by decide +kernel
theorem dt_Ru_readFact_61 : decode prog_10_method_7_code 61 = .ok (.aload_n 0, 1) := by decide +kernel
theorem dt_Ru_readFact_62 : decode prog_10_method_7_code 62 = .ok (.aload_n 1, 1) := by decide +kernel
theorem dt_Ru_readFact_63 : decode prog_10_method_7_code 63 = .ok (.invokevirtual 40, 3) := by decide +kernel
theorem dt_Ru_readFact_66 : decode prog_10_method_7_code 66 = .ok (.aload_n 0, 1) := by decide +kernel
theorem dt_Ru_readFact_67 : decode prog_10_method_7_code 67 = .ok (.iload 4, 2) := by decide +kernel
theorem dt_Ru_readFact_69 : decode prog_10_method_7_code 69 = .ok (.invokevirtual 50, 3) := by decide +kernel
theorem dt_Ru_readFact_72 : decode prog_10_method_7_code 72 = .ok (.goto 75, 3) := by decide +kernel
theorem dt_Ru_readFact_75 : decode prog_10_method_7_code 75 = .ok (.iload_n 2, 1) := by decide +kernel
theorem dt_Ru_readFact_76 : decode prog_10_method_7_code 76 = .ok (.bipush 10, 2) := by decide +kernel
theorem dt_Ru_readFact_78 : decode prog_10_method_7_code 78 = .ok (.if_icmp .lt 11, 3) := by decide +kernel
theorem dt_Ru_readFact_81 : decode prog_10_method_7_code 81 = .ok (.aload_n 1, 1) := by decide +kernel
theorem dt_Ru_readFact_82 : decode prog_10_method_7_code 82 = .ok (.iconst 2, 1) := by decide +kernel
theorem dt_Ru_readFact_83 : decode prog_10_method_7_code 83 = .ok (.invokevirtual 33, 3) := by decide +kernel
theorem dt_Ru_readFact_86 : decode prog_10_method_7_code 86 = .ok (.goto 61, 3) := by decide +kernel
theorem dt_Ru_readFact_89 : decode prog_10_method_7_code 89 = .ok (.iload_n 3, 1) := by decide +kernel
theorem dt_Ru_readFact_90 : decode prog_10_method_7_code 90 = .ok (.ifCond .eq 39, 3) := by decide +kernel
theorem dt_Ru_readFact_93 : decode prog_10_method_7_code 93 = .ok (.aload_n 1, 1) := by decide +kernel
theorem dt_Ru_readFact_94 : decode prog_10_method_7_code 94 = .ok (.invokevirtual 37, 3) := by decide +kernel
theorem dt_Ru_readFact_97 : decode prog_10_method_7_code 97 = .ok (.aload_n 0, 1) := by decide +kernel
theorem dt_Ru_readFact_98 : decode prog_10_method_7_code 98 = .ok (.aload_n 1, 1) := by decide +kernel
theorem dt_Ru_readFact_99 : decode prog_10_method_7_code 99 = .ok (.iload_n 2, 1) := by decide +kernel
theorem dt_Ru_readFact_100 : decode prog_10_method_7_code 100 = .ok (.iconst 1, 1) := by decide +kernel
theorem dt_Ru_readFact_101 : decode prog_10_method_7_code 101 = .ok (.iadd, 1) := by decide +kernel
theorem dt_Ru_readFact_102 : decode prog_10_method_7_code 102 = .ok (.invokevirtual 46, 3) := by decide +kernel
theorem dt_Ru_readFact_105 : decode prog_10_method_7_code 105 = .ok (.aload_n 1, 1) := by decide +kernel
theorem dt_Ru_readFact_106 : decode prog_10_method_7_code 106 = .ok (.getfield 53, 3) := by decide +kernel
theorem dt_Ru_readFact_109 : decode prog_10_method_7_code 109 = .ok (.bipush 93, 2) := by decide +kernel
theorem dt_Ru_readFact_111 : decode prog_10_method_7_code 111 = .ok (.if_icmp .ne 10, 3) := by decide +kernel
theorem dt_Ru_readFact_114 : decode prog_10_method_7_code 114 = .ok (.aload_n 1, 1) := by decide +kernel
theorem dt_Ru_readFact_115 : decode prog_10_method_7_code 115 = .ok (.invokevirtual 37, 3) := by decide +kernel
theorem dt_Ru_readFact_118 : decode prog_10_method_7_code 118 = .ok (.goto 29, 3) := by decide +kernel
theorem dt_Ru_readFact_121 : decode prog_10_method_7_code 121 = .ok (.aload_n 1, 1) := by decide +kernel
theorem dt_Ru_readFact_122 : decode prog_10_method_7_code 122 = .ok (.iconst 0, 1) := by decide +kernel
theorem dt_Ru_readFact_123 : decode prog_10_method_7_code 123 = .ok (.invokevirtual 33, 3) := by decide +kernel
theorem dt_Ru_readFact_126 : decode prog_10_method_7_code 126 = .ok (.goto 21, 3) := by decide +kernel
theorem dt_Ru_readFact_129 : decode prog_10_method_7_code 129 = .ok (.aload_n 1, 1) := by decide +kernel
theorem dt_Ru_readFact_130 : decode prog_10_method_7_code 130 = .ok (.invokevirtual 37, 3) := by decide +kernel
theorem dt_Ru_readFact_133 : decode prog_10_method_7_code 133 = .ok (.aload_n 0, 1) := by decide +kernel
theorem dt_Ru_readFact_134 : decode prog_10_method_7_code 134 = .ok (.aload_n 1, 1) := by decide +kernel
theorem dt_Ru_readFact_135 : decode prog_10_method_7_code 135 = .ok (.iload_n 2, 1) := by decide +kernel
theorem dt_Ru_readFact_136 : decode prog_10_method_7_code 136 = .ok (.iconst 1, 1) := by decide +kernel
theorem dt_Ru_readFact_137 : decode prog_10_method_7_code 137 = .ok (.iadd, 1) := by decide +kernel
theorem dt_Ru_readFact_138 : decode prog_10_method_7_code 138 = .ok (.invokevirtual 65, 3) := by decide +kernel
theorem dt_Ru_readFact_141 : decode prog_10_method_7_code 141 = .ok (.aload_n 0, 1) := by decide +kernel
theorem dt_Ru_readFact_142 : decode prog_10_method_7_code 142 = .ok (.bipush (-33), 2) := by decide +kernel
theorem dt_Ru_readFact_144 : decode prog_10_method_7_code 144 = .ok (.invokevirtual 50, 3) := by decide +kernel
theorem dt_Ru_readFact_147 : decode prog_10_method_7_code 147 = .ok (.return_, 1) := by decide +kernel
theorem dt_Ru_readTest_0 : decode prog_10_method_6_code 0 = .ok (.iconst 0, 1) := by decide +kernel
theorem dt_Ru_readTest_1 : decode prog_10_method_6_code 1 = .ok (.istore_n 3, 1) := by decide +kernel
theorem dt_Ru_readTest_2 : decode prog_10_method_6_code 2 = .ok (.iconst 0, 1) := by decide +kernel
theorem dt_Ru_readTest_3 : decode prog_10_method_6_code 3 = .ok (.istore 4, 2) := by decide +kernel
theorem dt_Ru_readTest_5 : decode prog_10_method_6_code 5 = .ok (.iconst 1, 1) := by decide +kernel
theorem dt_Ru_readTest_6 : decode prog_10_method_6_code 6 = .ok (.istore 5, 2) := by decide +kernel
theorem dt_Ru_readTest_8 : decode prog_10_method_6_code 8 = .ok (.iconst 0, 1) := by decide +kernel
theorem dt_Ru_readTest_9 : decode prog_10_method_6_code 9 = .ok (.istore 6, 2) := by decide +kernel
theorem dt_Ru_readTest_11 : decode prog_10_method_6_code 11 = .ok (.iload 5, 2) := by decide +kernel
theorem dt_Ru_readTest_13 : decode prog_10_method_6_code 13 = .ok (.ifCond .eq 121, 3) := by decide +kernel
theorem dt_Ru_readTest_16 : decode prog_10_method_6_code 16 = .ok (.iload 6, 2) := by decide +kernel
theorem dt_Ru_readTest_18 : decode prog_10_method_6_code 18 = .ok (.bipush 60, 2) := by decide +kernel
theorem dt_Ru_readTest_20 : decode prog_10_method_6_code 20 = .ok (.if_icmp .gt 114, 3) := by decide +kernel
theorem dt_Ru_readTest_23 : decode prog_10_method_6_code 23 = .ok (.aload_n 0, 1) := by decide +kernel
theorem dt_Ru_readTest_24 : decode prog_10_method_6_code 24 = .ok (.aload_n 1, 1) := by decide +kernel
theorem dt_Ru_readTest_25 : decode prog_10_method_6_code 25 = .ok (.iload_n 2, 1) := by decide +kernel
theorem dt_Ru_readTest_26 : decode prog_10_method_6_code 26 = .ok (.invokevirtual 65, 3) := by decide +kernel
theorem dt_Ru_readTest_29 : decode prog_10_method_6_code 29 = .ok (.iload_n 3, 1) := by decide +kernel
theorem dt_Ru_readTest_30 : decode prog_10_method_6_code 30 = .ok (.ifCond .eq 9, 3) := by decide +kernel
theorem dt_Ru_readTest_33 : decode prog_10_method_6_code 33 = .ok (.aload_n 0, 1) := by decide +kernel
theorem dt_Ru_readTest_34 : decode prog_10_method_6_code 34 = .ok (.bipush (-31), 2) := by decide +kernel
theorem dt_Ru_readTest_36 : decode prog_10_method_6_code 36 = .ok (.invokevirtual 50, 3) := by decide +kernel
theorem dt_Ru_readTest_39 : decode prog_10_method_6_code 39 = .ok (.aload_n 1, 1) := by decide +kernel
theorem dt_Ru_readTest_40 : decode prog_10_method_6_code 40 = .ok (.getfield 30, 3) := by decide +kernel
theorem dt_Ru_readTest_43 : decode prog_10_method_6_code 43 = .ok (.bipush 15, 2) := by decide +kernel
theorem dt_Ru_readTest_45 : decode prog_10_method_6_code 45 = .ok (.if_icmp .ne 7, 3) := by decide +kernel
theorem dt_Ru_readTest_48 : decode prog_10_method_6_code 48 = .ok (.iconst 1, 1) := by decide +kernel
theorem dt_Ru_readTest_49 : decode prog_10_method_6_code 49 = .ok (.goto 4, 3) := by decide +kernel
theorem dt_Ru_readTest_52 : decode prog_10_method_6_code 52 = .ok (.iconst 0, 1) := by decide +kernel
theorem dt_Ru_readTest_53 : decode prog_10_method_6_code 53 = .ok (.istore_n 3, 1) := by decide +kernel
theorem dt_Ru_readTest_54 : decode prog_10_method_6_code 54 = .ok (.iload 4, 2) := by decide +kernel
theorem dt_Ru_readTest_56 : decode prog_10_method_6_code 56 = .ok (.ifCond .eq 13, 3) := by decide +kernel
theorem dt_Ru_readTest_59 : decode prog_10_method_6_code 59 = .ok (.iload_n 3, 1) := by decide +kernel
theorem dt_Ru_readTest_60 : decode prog_10_method_6_code 60 = .ok (.ifCond .ne 9, 3) := by decide +kernel
theorem dt_Ru_readTest_63 : decode prog_10_method_6_code 63 = .ok (.aload_n 0, 1) := by decide +kernel
theorem dt_Ru_readTest_64 : decode prog_10_method_6_code 64 = .ok (.bipush (-32), 2) := by decide +kernel
theorem dt_Ru_readTest_66 : decode prog_10_method_6_code 66 = .ok (.invokevirtual 50, 3) := by decide +kernel
theorem dt_Ru_readTest_69 : decode prog_10_method_6_code 69 = .ok (.iload 4, 2) := by decide +kernel
theorem dt_Ru_readTest_71 : decode prog_10_method_6_code 71 = .ok (.ifCond .eq 7, 3) := by decide +kernel
theorem dt_Ru_readTest_74 : decode prog_10_method_6_code 74 = .ok (.iload_n 3, 1) := by decide +kernel
theorem dt_Ru_readTest_75 : decode prog_10_method_6_code 75 = .ok (.ifCond .ne 12, 3) := by decide +kernel
theorem dt_Ru_readTest_78 : decode prog_10_method_6_code 78 = .ok (.aload_n 1, 1) := by decide +kernel
theorem dt_Ru_readTest_79 : decode prog_10_method_6_code 79 = .ok (.getfield 30, 3) := by decide +kernel
theorem dt_Ru_readTest_82 : decode prog_10_method_6_code 82 = .ok (.bipush 16, 2) := by decide +kernel
theorem dt_Ru_readTest_84 : decode prog_10_method_6_code 84 = .ok (.if_icmp .ne 7, 3) := by decide +kernel
theorem dt_Ru_readTest_87 : decode prog_10_method_6_code 87 = .ok (.iconst 1, 1) := by decide +kernel
theorem dt_Ru_readTest_88 : decode prog_10_method_6_code 88 = .ok (.goto 4, 3) := by decide +kernel
theorem dt_Ru_readTest_91 : decode prog_10_method_6_code 91 = .ok (.iconst 0, 1) := by decide +kernel
theorem dt_Ru_readTest_92 : decode prog_10_method_6_code 92 = .ok (.istore 4, 2) := by decide +kernel
theorem dt_Ru_readTest_94 : decode prog_10_method_6_code 94 = .ok (.aload_n 1, 1) := by decide +kernel
theorem dt_Ru_readTest_95 : decode prog_10_method_6_code 95 = .ok (.getfield 30, 3) := by decide +kernel
theorem dt_Ru_readTest_98 : decode prog_10_method_6_code 98 = .ok (.bipush 15, 2) := by decide +kernel
theorem dt_Ru_readTest_100 : decode prog_10_method_6_code 100 = .ok (.if_icmp .eq 12, 3) := by decide +kernel
theorem dt_Ru_readTest_103 : decode prog_10_method_6_code 103 = .ok (.aload_n 1, 1) := by decide +kernel
theorem dt_Ru_readTest_104 : decode prog_10_method_6_code 104 = .ok (.getfield 30, 3) := by decide +kernel
theorem dt_Ru_readTest_107 : decode prog_10_method_6_code 107 = .ok (.bipush 16, 2) := by decide +kernel
theorem dt_Ru_readTest_109 : decode prog_10_method_6_code 109 = .ok (.if_icmp .ne 7, 3) := by decide +kernel
theorem dt_Ru_readTest_112 : decode prog_10_method_6_code 112 = .ok (.iconst 1, 1) := by decide +kernel
theorem dt_Ru_readTest_113 : decode prog_10_method_6_code 113 = .ok (.goto 4, 3) := by decide +kernel
theorem dt_Ru_readTest_116 : decode prog_10_method_6_code 116 = .ok (.iconst 0, 1) := by decide +kernel
theorem dt_Ru_readTest_117 : decode prog_10_method_6_code 117 = .ok (.istore 5, 2) := by decide +kernel
theorem dt_Ru_readTest_119 : decode prog_10_method_6_code 119 = .ok (.iload 5, 2) := by decide +kernel
theorem dt_Ru_readTest_121 : decode prog_10_method_6_code 121 = .ok (.ifCond .eq 7, 3) := by decide +kernel
theorem dt_Ru_readTest_124 : decode prog_10_method_6_code 124 = .ok (.aload_n 1, 1) := by decide +kernel
theorem dt_Ru_readTest_125 : decode prog_10_method_6_code 125 = .ok (.invokevirtual 37, 3) := by decide +kernel
theorem dt_Ru_readTest_128 : decode prog_10_method_6_code 128 = .ok (.iinc 6 1, 3) := by decide +kernel
theorem dt_Ru_readTest_131 : decode prog_10_method_6_code 131 = .ok (.goto (-120), 3) := by decide +kernel
theorem dt_Ru_readTest_134 : decode prog_10_method_6_code 134 = .ok (.return_, 1) := by decide +kernel
theorem dt_Ru_readAll_0 : decode prog_10_method_2_code 0 = .ok (.aload_n 1, 1) := by decide +kernel
theorem dt_Ru_readAll_1 : decode prog_10_method_2_code 1 = .ok (.ldc 15, 2) := by decide +kernel
theorem dt_Ru_readAll_3 : decode prog_10_method_2_code 3 = .ok (.invokevirtual 17, 3) := by decide +kernel
theorem dt_Ru_readAll_6 : decode prog_10_method_2_code 6 = .ok (.aload_n 0, 1) := by decide +kernel
theorem dt_Ru_readAll_7 : decode prog_10_method_2_code 7 = .ok (.iconst 0, 1) := by decide +kernel
theorem dt_Ru_readAll_8 : decode prog_10_method_2_code 8 = .ok (.putfield 23, 3) := by decide +kernel
theorem dt_Ru_readAll_11 : decode prog_10_method_2_code 11 = .ok (.aload_n 0, 1) := by decide +kernel
theorem dt_Ru_readAll_12 : decode prog_10_method_2_code 12 = .ok (.iconst 0, 1) := by decide +kernel
theorem dt_Ru_readAll_13 : decode prog_10_method_2_code 13 = .ok (.putfield 27, 3) := by decide +kernel
theorem dt_Ru_readAll_16 : decode prog_10_method_2_code 16 = .ok (.iconst 1, 1) := by decide +kernel
theorem dt_Ru_readAll_17 : decode prog_10_method_2_code 17 = .ok (.istore_n 2, 1) := by decide +kernel
theorem dt_Ru_readAll_18 : decode prog_10_method_2_code 18 = .ok (.iconst 0, 1) := by decide +kernel
theorem dt_Ru_readAll_19 : decode prog_10_method_2_code 19 = .ok (.istore_n 3, 1) := by decide +kernel
theorem dt_Ru_readAll_20 : decode prog_10_method_2_code 20 = .ok (.iload_n 2, 1) := by decide +kernel
theorem dt_Ru_readAll_21 : decode prog_10_method_2_code 21 = .ok (.ifCond .eq 108, 3) := by decide +kernel
theorem dt_Ru_readAll_24 : decode prog_10_method_2_code 24 = .ok (.iload_n 3, 1) := by decide +kernel
theorem dt_Ru_readAll_25 : decode prog_10_method_2_code 25 = .ok (.bipush 12, 2) := by decide +kernel
theorem dt_Ru_readAll_27 : decode prog_10_method_2_code 27 = .ok (.if_icmp .gt 102, 3) := by decide +kernel
theorem dt_Ru_readAll_30 : decode prog_10_method_2_code 30 = .ok (.aload_n 1, 1) := by decide +kernel
theorem dt_Ru_readAll_31 : decode prog_10_method_2_code 31 = .ok (.getfield 30, 3) := by decide +kernel
theorem dt_Ru_readAll_34 : decode prog_10_method_2_code 34 = .ok (.bipush 12, 2) := by decide +kernel
theorem dt_Ru_readAll_36 : decode prog_10_method_2_code 36 = .ok (.if_icmp .eq 11, 3) := by decide +kernel
theorem dt_Ru_readAll_39 : decode prog_10_method_2_code 39 = .ok (.aload_n 1, 1) := by decide +kernel
theorem dt_Ru_readAll_40 : decode prog_10_method_2_code 40 = .ok (.iconst 0, 1) := by decide +kernel
theorem dt_Ru_readAll_41 : decode prog_10_method_2_code 41 = .ok (.invokevirtual 33, 3) := by decide +kernel
theorem dt_Ru_readAll_44 : decode prog_10_method_2_code 44 = .ok (.goto 14, 3) := by decide +kernel
theorem dt_Ru_readAll_47 : decode prog_10_method_2_code 47 = .ok (.iload_n 3, 1) := by decide +kernel
theorem dt_Ru_readAll_48 : decode prog_10_method_2_code 48 = .ok (.bipush 12, 2) := by decide +kernel
theorem dt_Ru_readAll_50 : decode prog_10_method_2_code 50 = .ok (.if_icmp .ne 8, 3) := by decide +kernel
theorem dt_Ru_readAll_53 : decode prog_10_method_2_code 53 = .ok (.aload_n 1, 1) := by decide +kernel
theorem dt_Ru_readAll_54 : decode prog_10_method_2_code 54 = .ok (.iconst 4, 1) := by decide +kernel
theorem dt_Ru_readAll_55 : decode prog_10_method_2_code 55 = .ok (.invokevirtual 33, 3) := by decide +kernel
theorem dt_Ru_readAll_58 : decode prog_10_method_2_code 58 = .ok (.aload_n 1, 1) := by decide +kernel
theorem dt_Ru_readAll_59 : decode prog_10_method_2_code 59 = .ok (.invokevirtual 37, 3) := by decide +kernel
theorem dt_Ru_readAll_62 : decode prog_10_method_2_code 62 = .ok (.aload_n 0, 1) := by decide +kernel
theorem dt_Ru_readAll_63 : decode prog_10_method_2_code 63 = .ok (.aload_n 1, 1) := by decide +kernel
theorem dt_Ru_readAll_64 : decode prog_10_method_2_code 64 = .ok (.invokevirtual 40, 3) := by decide +kernel
theorem dt_Ru_readAll_67 : decode prog_10_method_2_code 67 = .ok (.bipush (-34), 2) := by decide +kernel
theorem dt_Ru_readAll_69 : decode prog_10_method_2_code 69 = .ok (.istore 4, 2) := by decide +kernel
theorem dt_Ru_readAll_71 : decode prog_10_method_2_code 71 = .ok (.aload_n 1, 1) := by decide +kernel
theorem dt_Ru_readAll_72 : decode prog_10_method_2_code 72 = .ok (.getfield 30, 3) := by decide +kernel
theorem dt_Ru_readAll_75 : decode prog_10_method_2_code 75 = .ok (.bipush 13, 2) := by decide +kernel
theorem dt_Ru_readAll_77 : decode prog_10_method_2_code 77 = .ok (.if_icmp .ne 17, 3) := by decide +kernel
theorem dt_Ru_readAll_80 : decode prog_10_method_2_code 80 = .ok (.aload_n 1, 1) := by decide +kernel
theorem dt_Ru_readAll_81 : decode prog_10_method_2_code 81 = .ok (.invokevirtual 37, 3) := by decide +kernel
theorem dt_Ru_readAll_84 : decode prog_10_method_2_code 84 = .ok (.aload_n 0, 1) := by decide +kernel
theorem dt_Ru_readAll_85 : decode prog_10_method_2_code 85 = .ok (.aload_n 1, 1) := by decide +kernel
theorem dt_Ru_readAll_86 : decode prog_10_method_2_code 86 = .ok (.iconst 0, 1) := by decide +kernel
theorem dt_Ru_readAll_87 : decode prog_10_method_2_code 87 = .ok (.invokevirtual 46, 3) := by decide +kernel
theorem dt_Ru_readAll_90 : decode prog_10_method_2_code 90 = .ok (.bipush (-35), 2) := by decide +kernel
theorem dt_Ru_readAll_92 : decode prog_10_method_2_code 92 = .ok (.istore 4, 2) := by decide +kernel
theorem dt_Ru_readAll_94 : decode prog_10_method_2_code 94 = .ok (.aload_n 0, 1) := by decide +kernel
theorem dt_Ru_readAll_95 : decode prog_10_method_2_code 95 = .ok (.iload 4, 2) := by decide +kernel
theorem dt_Ru_readAll_97 : decode prog_10_method_2_code 97 = .ok (.invokevirtual 50, 3) := by decide +kernel
theorem dt_Ru_readAll_100 : decode prog_10_method_2_code 100 = .ok (.aload_n 1, 1) := by decide +kernel
theorem dt_Ru_readAll_101 : decode prog_10_method_2_code 101 = .ok (.getfield 53, 3) := by decide +kernel
theorem dt_Ru_readAll_104 : decode prog_10_method_2_code 104 = .ok (.bipush 59, 2) := by decide +kernel
theorem dt_Ru_readAll_106 : decode prog_10_method_2_code 106 = .ok (.if_icmp .ne 7, 3) := by decide +kernel
theorem dt_Ru_readAll_109 : decode prog_10_method_2_code 109 = .ok (.iconst 1, 1) := by decide +kernel
theorem dt_Ru_readAll_110 : decode prog_10_method_2_code 110 = .ok (.goto 4, 3) := by decide +kernel
theorem dt_Ru_readAll_113 : decode prog_10_method_2_code 113 = .ok (.iconst 0, 1) := by decide +kernel
theorem dt_Ru_readAll_114 : decode prog_10_method_2_code 114 = .ok (.istore_n 2, 1) := by decide +kernel
theorem dt_Ru_readAll_115 : decode prog_10_method_2_code 115 = .ok (.iload_n 2, 1) := by decide +kernel
theorem dt_Ru_readAll_116 : decode prog_10_method_2_code 116 = .ok (.ifCond .eq 7, 3) := by decide +kernel
theorem dt_Ru_readAll_119 : decode prog_10_method_2_code 119 = .ok (.aload_n 1, 1) := by decide +kernel
theorem dt_Ru_readAll_120 : decode prog_10_method_2_code 120 = .ok (.invokevirtual 37, 3) := by decide +kernel
theorem dt_Ru_readAll_123 : decode prog_10_method_2_code 123 = .ok (.iinc 3 1, 3) := by decide +kernel
theorem dt_Ru_readAll_126 : decode prog_10_method_2_code 126 = .ok (.goto (-106), 3) := by decide +kernel
theorem dt_Ru_readAll_129 : decode prog_10_method_2_code 129 = .ok (.aload_n 1, 1) := by decide +kernel
theorem dt_Ru_readAll_130 : decode prog_10_method_2_code 130 = .ok (.getfield 53, 3) := by decide +kernel
theorem dt_Ru_readAll_133 : decode prog_10_method_2_code 133 = .ok (.iconst (-1), 1) := by decide +kernel
theorem dt_Ru_readAll_134 : decode prog_10_method_2_code 134 = .ok (.if_icmp .eq 8, 3) := by decide +kernel
theorem dt_Ru_readAll_137 : decode prog_10_method_2_code 137 = .ok (.aload_n 1, 1) := by decide +kernel
theorem dt_Ru_readAll_138 : decode prog_10_method_2_code 138 = .ok (.iconst 0, 1) := by decide +kernel
theorem dt_Ru_readAll_139 : decode prog_10_method_2_code 139 = .ok (.invokevirtual 33, 3) := by decide +kernel
theorem dt_Ru_readAll_142 : decode prog_10_method_2_code 142 = .ok (.aload_n 1, 1) := by decide +kernel
theorem dt_Ru_readAll_143 : decode prog_10_method_2_code 143 = .ok (.getfield 56, 3) := by decide +kernel
theorem dt_Ru_readAll_146 : decode prog_10_method_2_code 146 = .ok (.ireturn, 1) := by decide +kernel