theorem dt_Ta_fail_0 : decode prog_11_method_4_code 0 = .ok (.aload_n 0, 1) := by decide +kernel
theorem dt_Ta_fail_1 : decode prog_11_method_4_code 1 = .ok (.getfield 28, 3) := by decide +kernel
theorem dt_Ta_fail_4 : decode prog_11_method_4_code 4 = .ok (.ifCond .ne 18, 3) := by decide +kernel
theorem dt_Ta_fail_7 : decode prog_11_method_4_code 7 = .ok (.aload_n 0, 1) := by decide +kernel
theorem dt_Ta_fail_8 : decode prog_11_method_4_code 8 = .ok (.iconst 1, 1) := by decide +kernel
theorem dt_Ta_fail_9 : decode prog_11_method_4_code 9 = .ok (.bipush 8, 2) := by decide +kernel
theorem dt_Ta_fail_11 : decode prog_11_method_4_code 11 = .ok (.aload_n 0, 1) := by decide +kernel
theorem dt_Ta_fail_12 : decode prog_11_method_4_code 12 = .ok (.getfield 34, 3) := by decide +kernel
theorem dt_Ta_fail_15 : decode prog_11_method_4_code 15 = .ok (.imul, 1) := by decide +kernel
theorem dt_Ta_fail_16 : decode prog_11_method_4_code 16 = .ok (.iadd, 1) := by decide +kernel
theorem dt_Ta_fail_17 : decode prog_11_method_4_code 17 = .ok (.iload_n 1, 1) := by decide +kernel
theorem dt_Ta_fail_18 : decode prog_11_method_4_code 18 = .ok (.iadd, 1) := by decide +kernel
theorem dt_Ta_fail_19 : decode prog_11_method_4_code 19 = .ok (.putfield 28, 3) := by decide +kernel
theorem dt_Ta_fail_22 : decode prog_11_method_4_code 22 = .ok (.aload_n 0, 1) := by decide +kernel
theorem dt_Ta_fail_23 : decode prog_11_method_4_code 23 = .ok (.aload_n 0, 1) := by decide +kernel
theorem dt_Ta_fail_24 : decode prog_11_method_4_code 24 = .ok (.getfield 21, 3) := by decide +kernel
theorem dt_Ta_fail_27 : decode prog_11_method_4_code 27 = .ok (.putfield 25, 3) := by decide +kernel
theorem dt_Ta_fail_30 : decode prog_11_method_4_code 30 = .ok (.aload_n 0, 1) := by decide +kernel
theorem dt_Ta_fail_31 : decode prog_11_method_4_code 31 = .ok (.iconst (-1), 1) := by decide +kernel
theorem dt_Ta_fail_32 : decode prog_11_method_4_code 32 = .ok (.putfield 37, 3) := by decide +kernel
theorem dt_Ta_fail_35 : decode prog_11_method_4_code 35 = .ok (.aload_n 0, 1) := by decide +kernel
theorem dt_Ta_fail_36 : decode prog_11_method_4_code 36 = .ok (.iconst (-1), 1) := by decide +kernel
theorem dt_Ta_fail_37 : decode prog_11_method_4_code 37 = .ok (.putfield 40, 3) := by decide +kernel
theorem dt_Ta_fail_40 : decode prog_11_method_4_code 40 = .ok (.aload_n 0, 1) := by decide +kernel
theorem dt_Ta_fail_41 : decode prog_11_method_4_code 41 = .ok (.iconst (-1), 1) := by decide +kernel
theorem dt_Ta_fail_42 : decode prog_11_method_4_code 42 = .ok (.putfield 43, 3) := by decide +kernel
theorem dt_Ta_fail_45 : decode prog_11_method_4_code 45 = .ok (.return_, 1) := by decide +kernel
theorem dt_Ta_readWord_0 : decode prog_11_method_7_code 0 = .ok (.aload_n 0, 1) := by decide +kernel
theorem dt_Ta_readWord_1 : decode prog_11_method_7_code 1 = .ok (.getfield 25, 3) := by decide +kernel
theorem dt_Ta_readWord_4 : decode prog_11_method_7_code 4 = .ok (.aload_n 0, 1) := by decide +kernel
theorem dt_Ta_readWord_5 : decode prog_11_method_7_code 5 = .ok (.getfield 21, 3) := by decide +kernel
theorem dt_Ta_readWord_8 : decode prog_11_method_7_code 8 = .ok (.if_icmp .ge 44, 3) := by decide +kernel
theorem dt_Ta_readWord_11 : decode prog_11_method_7_code 11 = .ok (.aload_n 0, 1) := by decide +kernel
theorem dt_Ta_readWord_12 : decode prog_11_method_7_code 12 = .ok (.getfield 9, 3) := by decide +kernel
theorem dt_Ta_readWord_15 : decode prog_11_method_7_code 15 = .ok (.aload_n 0, 1) := by decide +kernel
theorem dt_Ta_readWord_16 : decode prog_11_method_7_code 16 = .ok (.getfield 25, 3) := by decide +kernel
theorem dt_Ta_readWord_19 : decode prog_11_method_7_code 19 = .ok (.baload, 1) := by decide +kernel
theorem dt_Ta_readWord_20 : decode prog_11_method_7_code 20 = .ok (.bipush 97, 2) := by decide +kernel
theorem dt_Ta_readWord_22 : decode prog_11_method_7_code 22 = .ok (.if_icmp .lt 30, 3) := by decide +kernel
theorem dt_Ta_readWord_25 : decode prog_11_method_7_code 25 = .ok (.aload_n 0, 1) := by decide +kernel
theorem dt_Ta_readWord_26 : decode prog_11_method_7_code 26 = .ok (.getfield 9, 3) := by decide +kernel
theorem dt_Ta_readWord_29 : decode prog_11_method_7_code 29 = .ok (.aload_n 0, 1) := by decide +kernel
theorem dt_Ta_readWord_30 : decode prog_11_method_7_code 30 = .ok (.getfield 25, 3) := by decide +kernel
theorem dt_Ta_readWord_33 : decode prog_11_method_7_code 33 = .ok (.baload, 1) := by decide +kernel
theorem dt_Ta_readWord_34 : decode prog_11_method_7_code 34 = .ok (.bipush 122, 2) := by decide +kernel
theorem dt_Ta_readWord_36 : decode prog_11_method_7_code 36 = .ok (.if_icmp .gt 16, 3) := by decide +kernel
theorem dt_Ta_readWord_39 : decode prog_11_method_7_code 39 = .ok (.aload_n 0, 1) := by decide +kernel
theorem dt_Ta_readWord_40 : decode prog_11_method_7_code 40 = .ok (.dup, 1) := by decide +kernel
theorem dt_Ta_readWord_41 : decode prog_11_method_7_code 41 = .ok (.getfield 25, 3) := by decide +kernel
theorem dt_Ta_readWord_44 : decode prog_11_method_7_code 44 = .ok (.iconst 1, 1) := by decide +kernel
theorem dt_Ta_readWord_45 : decode prog_11_method_7_code 45 = .ok (.iadd, 1) := by decide +kernel
theorem dt_Ta_readWord_46 : decode prog_11_method_7_code 46 = .ok (.putfield 25, 3) := by decide +kernel
theorem dt_Ta_readWord_49 : decode prog_11_method_7_code 49 = .ok (.goto (-49), 3) := by decide +kernel
theorem dt_Ta_readWord_52 : decode prog_11_method_7_code 52 = .ok (.iconst 0, 1) := by decide +kernel
theorem dt_Ta_readWord_53 : decode prog_11_method_7_code 53 = .ok (.istore_n 1, 1) := by decide +kernel
theorem dt_Ta_readWord_54 : decode prog_11_method_7_code 54 = .ok (.iconst 0, 1) := by decide +kernel
theorem dt_Ta_readWord_55 : decode prog_11_method_7_code 55 = .ok (.istore_n 2, 1) := by decide +kernel
theorem dt_Ta_readWord_56 : decode prog_11_method_7_code 56 = .ok (.iconst 0, 1) := by decide +kernel
theorem dt_Ta_readWord_57 : decode prog_11_method_7_code 57 = .ok (.istore_n 3, 1) := by decide +kernel
theorem dt_Ta_readWord_58 : decode prog_11_method_7_code 58 = .ok (.iload_n 3, 1) := by decide +kernel
theorem dt_Ta_readWord_59 : decode prog_11_method_7_code 59 = .ok (.aload_n 0, 1) := by decide +kernel
theorem dt_Ta_readWord_60 : decode prog_11_method_7_code 60 = .ok (.getfield 17, 3) := by decide +kernel
theorem dt_Ta_readWord_63 : decode prog_11_method_7_code 63 = .ok (.invokevirtual 55, 3) := by decide +kernel
theorem dt_Ta_readWord_66 : decode prog_11_method_7_code 66 = .ok (.if_icmp .ge 141, 3) := by decide +kernel
theorem dt_Ta_readWord_69 : decode prog_11_method_7_code 69 = .ok (.aload_n 0, 1) := by decide +kernel
theorem dt_Ta_readWord_70 : decode prog_11_method_7_code 70 = .ok (.getfield 43, 3) := by decide +kernel
theorem dt_Ta_readWord_73 : decode prog_11_method_7_code 73 = .ok (.iconst (-1), 1) := by decide +kernel
theorem dt_Ta_readWord_74 : decode prog_11_method_7_code 74 = .ok (.if_icmp .ne 133, 3) := by decide +kernel
theorem dt_Ta_readWord_77 : decode prog_11_method_7_code 77 = .ok (.aload_n 0, 1) := by decide +kernel
theorem dt_Ta_readWord_78 : decode prog_11_method_7_code 78 = .ok (.getfield 17, 3) := by decide +kernel
theorem dt_Ta_readWord_81 : decode prog_11_method_7_code 81 = .ok (.iload_n 3, 1) := by decide +kernel
theorem dt_Ta_readWord_82 : decode prog_11_method_7_code 82 = .ok (.invokevirtual 60, 3) := by decide +kernel
theorem dt_Ta_readWord_85 : decode prog_11_method_7_code 85 = .ok (.istore 4, 2) := by decide +kernel
theorem dt_Ta_readWord_87 : decode prog_11_method_7_code 87 = .ok (.iload 4, 2) := by decide +kernel
theorem dt_Ta_readWord_89 : decode prog_11_method_7_code 89 = .ok (.bipush 32, 2) := by decide +kernel
theorem dt_Ta_readWord_91 : decode prog_11_method_7_code 91 = .ok (.if_icmp .ne 11, 3) := by decide +kernel
theorem dt_Ta_readWord_94 : decode prog_11_method_7_code 94 = .ok (.iinc 1 1, 3) := by decide +kernel
theorem dt_Ta_readWord_97 : decode prog_11_method_7_code 97 = .ok (.iconst 0, 1) := by decide +kernel
theorem dt_Ta_readWord_98 : decode prog_11_method_7_code 98 = .ok (.istore_n 2, 1) := by decide +kernel
theorem dt_Ta_readWord_99 : decode prog_11_method_7_code 99 = .ok (.goto 102, 3) := by decide +kernel
theorem dt_Ta_readWord_102 : decode prog_11_method_7_code 102 = .ok (.iload_n 2, 1) := by decide +kernel
theorem dt_Ta_readWord_103 : decode prog_11_method_7_code 103 = .ok (.ifCond .lt 96, 3) := by decide +kernel
theorem dt_Ta_readWord_106 : decode prog_11_method_7_code 106 = .ok (.aload_n 0, 1) := by decide +kernel
theorem dt_Ta_readWord_107 : decode prog_11_method_7_code 107 = .ok (.getfield 34, 3) := by decide +kernel
theorem dt_Ta_readWord_110 : decode prog_11_method_7_code 110 = .ok (.iload_n 2, 1) := by decide +kernel
theorem dt_Ta_readWord_111 : decode prog_11_method_7_code 111 = .ok (.iadd, 1) := by decide +kernel
theorem dt_Ta_readWord_112 : decode prog_11_method_7_code 112 = .ok (.aload_n 0, 1) := by decide +kernel
theorem dt_Ta_readWord_113 : decode prog_11_method_7_code 113 = .ok (.getfield 25, 3) := by decide +kernel
theorem dt_Ta_readWord_116 : decode prog_11_method_7_code 116 = .ok (.if_icmp .ge 83, 3) := by decide +kernel
theorem dt_Ta_readWord_119 : decode prog_11_method_7_code 119 = .ok (.aload_n 0, 1) := by decide +kernel
theorem dt_Ta_readWord_120 : decode prog_11_method_7_code 120 = .ok (.getfield 9, 3) := by decide +kernel
theorem dt_Ta_readWord_123 : decode prog_11_method_7_code 123 = .ok (.aload_n 0, 1) := by decide +kernel
theorem dt_Ta_readWord_124 : decode prog_11_method_7_code 124 = .ok (.getfield 34, 3) := by decide +kernel
theorem dt_Ta_readWord_127 : decode prog_11_method_7_code 127 = .ok (.iload_n 2, 1) := by decide +kernel
theorem dt_Ta_readWord_128 : decode prog_11_method_7_code 128 = .ok (.iadd, 1) := by decide +kernel
theorem dt_Ta_readWord_129 : decode prog_11_method_7_code 129 = .ok (.baload, 1) := by decide +kernel
theorem dt_Ta_readWord_130 : decode prog_11_method_7_code 130 = .ok (.iload 4, 2) := by decide +kernel
theorem dt_Ta_readWord_132 : decode prog_11_method_7_code 132 = .ok (.if_icmp .ne 67, 3) := by decide +kernel
theorem dt_Ta_readWord_135 : decode prog_11_method_7_code 135 = .ok (.iinc 2 1, 3) := by decide +kernel
theorem dt_Ta_readWord_138 : decode prog_11_method_7_code 138 = .ok (.iload_n 3, 1) := by decide +kernel
theorem dt_Ta_readWord_139 : decode prog_11_method_7_code 139 = .ok (.iconst 1, 1) := by decide +kernel
theorem dt_Ta_readWord_140 : decode prog_11_method_7_code 140 = .ok (.iadd, 1) := by decide +kernel
theorem dt_Ta_readWord_141 : decode prog_11_method_7_code 141 = .ok (.aload_n 0, 1) := by decide +kernel
theorem dt_Ta_readWord_142 : decode prog_11_method_7_code 142 = .ok (.getfield 17, 3) := by decide +kernel
theorem dt_Ta_readWord_145 : decode prog_11_method_7_code 145 = .ok (.invokevirtual 55, 3) := by decide +kernel
theorem dt_Ta_readWord_148 : decode prog_11_method_7_code 148 = .ok (.if_icmp .eq 18, 3) := by decide +kernel
theorem dt_Ta_readWord_151 : decode prog_11_method_7_code 151 = .ok (.aload_n 0, 1) := by decide +kernel
theorem dt_Ta_readWord_152 : decode prog_11_method_7_code 152 = .ok (.getfield 17, 3) := by decide +kernel
theorem dt_Ta_readWord_155 : decode prog_11_method_7_code 155 = .ok (.iload_n 3, 1) := by decide +kernel
theorem dt_Ta_readWord_156 : decode prog_11_method_7_code 156 = .ok (.iconst 1, 1) := by decide +kernel
theorem dt_Ta_readWord_157 : decode prog_11_method_7_code 157 = .ok (.iadd, 1) := by decide +kernel
theorem dt_Ta_readWord_158 : decode prog_11_method_7_code 158 = .ok (.invokevirtual 60, 3) := by decide +kernel
theorem dt_Ta_readWord_161 : decode prog_11_method_7_code 161 = .ok (.bipush 32, 2) := by decide +kernel
theorem dt_Ta_readWord_163 : decode prog_11_method_7_code 163 = .ok (.if_icmp .ne 7, 3) := by decide +kernel
theorem dt_Ta_readWord_166 : decode prog_11_method_7_code 166 = .ok (.iconst 1, 1) := by decide +kernel
theorem dt_Ta_readWord_167 : decode prog_11_method_7_code 167 = .ok (.goto 4, 3) := by decide +kernel
theorem dt_Ta_readWord_170 : decode prog_11_method_7_code 170 = .ok (.iconst 0, 1) := by decide +kernel
theorem dt_Ta_readWord_171 : decode prog_11_method_7_code 171 = .ok (.istore 5, 2) := by decide +kernel
theorem dt_Ta_readWord_173 : decode prog_11_method_7_code 173 = .ok (.iload 5, 2) := by decide +kernel
theorem dt_Ta_readWord_175 : decode prog_11_method_7_code 175 = .ok (.ifCond .eq 21, 3) := by decide +kernel
theorem dt_Ta_readWord_178 : decode prog_11_method_7_code 178 = .ok (.aload_n 0, 1) := by decide +kernel
theorem dt_Ta_readWord_179 : decode prog_11_method_7_code 179 = .ok (.getfield 34, 3) := by decide +kernel
theorem dt_Ta_readWord_182 : decode prog_11_method_7_code 182 = .ok (.iload_n 2, 1) := by decide +kernel
theorem dt_Ta_readWord_183 : decode prog_11_method_7_code 183 = .ok (.iadd, 1) := by decide +kernel
theorem dt_Ta_readWord_184 : decode prog_11_method_7_code 184 = .ok (.aload_n 0, 1) := by decide +kernel
theorem dt_Ta_readWord_185 : decode prog_11_method_7_code 185 = .ok (.getfield 25, 3) := by decide +kernel
theorem dt_Ta_readWord_188 : decode prog_11_method_7_code 188 = .ok (.if_icmp .ne 8, 3) := by decide +kernel
theorem dt_Ta_readWord_191 : decode prog_11_method_7_code 191 = .ok (.aload_n 0, 1) := by decide +kernel
theorem dt_Ta_readWord_192 : decode prog_11_method_7_code 192 = .ok (.iload_n 1, 1) := by decide +kernel
theorem dt_Ta_readWord_193 : decode prog_11_method_7_code 193 = .ok (.putfield 43, 3) := by decide +kernel
theorem dt_Ta_readWord_196 : decode prog_11_method_7_code 196 = .ok (.goto 5, 3) := by decide +kernel
theorem dt_Ta_readWord_199 : decode prog_11_method_7_code 199 = .ok (.iconst (-1), 1) := by decide +kernel
theorem dt_Ta_readWord_200 : decode prog_11_method_7_code 200 = .ok (.istore_n 2, 1) := by decide +kernel
theorem dt_Ta_readWord_201 : decode prog_11_method_7_code 201 = .ok (.iinc 3 1, 3) := by decide +kernel
theorem dt_Ta_readWord_204 : decode prog_11_method_7_code 204 = .ok (.goto (-146), 3) := by decide +kernel
theorem dt_Ta_readWord_207 : decode prog_11_method_7_code 207 = .ok (.return_, 1) := by decide +kernel
theorem dt_Ta_readSign_0 : decode prog_11_method_8_code 0 = .ok (.aload_n 0, 1) := by decide +kernel
theorem dt_Ta_readSign_1 : decode prog_11_method_8_code 1 = .ok (.aload_n 0, 1) := by decide +kernel
theorem dt_Ta_readSign_2 : decode prog_11_method_8_code 2 = .ok (.getfield 9, 3) := by decide +kernel
theorem dt_Ta_readSign_5 : decode prog_11_method_8_code 5 = .ok (.aload_n 0, 1) := by decide +kernel
theorem dt_Ta_readSign_6 : decode prog_11_method_8_code 6 = .ok (.getfield 25, 3) := by decide +kernel
theorem dt_Ta_readSign_9 : decode prog_11_method_8_code 9 = .ok (.baload, 1) := by decide +kernel
theorem dt_Ta_readSign_10 : decode prog_11_method_8_code 10 = .ok (.sipush 255, 3) := by decide +kernel
theorem dt_Ta_readSign_13 : decode prog_11_method_8_code 13 = .ok (.iand, 1) := by decide +kernel
theorem dt_Ta_readSign_14 : decode prog_11_method_8_code 14 = .ok (.putfield 37, 3) := by decide +kernel
theorem dt_Ta_readSign_17 : decode prog_11_method_8_code 17 = .ok (.aload_n 0, 1) := by decide +kernel
theorem dt_Ta_readSign_18 : decode prog_11_method_8_code 18 = .ok (.dup, 1) := by decide +kernel
theorem dt_Ta_readSign_19 : decode prog_11_method_8_code 19 = .ok (.getfield 25, 3) := by decide +kernel
theorem dt_Ta_readSign_22 : decode prog_11_method_8_code 22 = .ok (.iconst 1, 1) := by decide +kernel
theorem dt_Ta_readSign_23 : decode prog_11_method_8_code 23 = .ok (.iadd, 1) := by decide +kernel
theorem dt_Ta_readSign_24 : decode prog_11_method_8_code 24 = .ok (.putfield 25, 3) := by decide +kernel
theorem dt_Ta_readSign_27 : decode prog_11_method_8_code 27 = .ok (.aload_n 0, 1) := by decide +kernel
theorem dt_Ta_readSign_28 : decode prog_11_method_8_code 28 = .ok (.getfield 25, 3) := by decide +kernel
theorem dt_Ta_readSign_31 : decode prog_11_method_8_code 31 = .ok (.aload_n 0, 1) := by decide +kernel
theorem dt_Ta_readSign_32 : decode prog_11_method_8_code 32 = .ok (.getfield 21, 3) := by decide +kernel
theorem dt_Ta_readSign_35 : decode prog_11_method_8_code 35 = .ok (.if_icmp .ge 21, 3) := by decide +kernel
theorem dt_Ta_readSign_38 : decode prog_11_method_8_code 38 = .ok (.aload_n 0, 1) := by decide +kernel
theorem dt_Ta_readSign_39 : decode prog_11_method_8_code 39 = .ok (.getfield 9, 3) := by decide +kernel
theorem dt_Ta_readSign_42 : decode prog_11_method_8_code 42 = .ok (.aload_n 0, 1) := by decide +kernel
theorem dt_Ta_readSign_43 : decode prog_11_method_8_code 43 = .ok (.getfield 25, 3) := by decide +kernel
theorem dt_Ta_readSign_46 : decode prog_11_method_8_code 46 = .ok (.baload, 1) := by decide +kernel
theorem dt_Ta_readSign_47 : decode prog_11_method_8_code 47 = .ok (.bipush 61, 2) := by decide +kernel
theorem dt_Ta_readSign_49 : decode prog_11_method_8_code 49 = .ok (.if_icmp .ne 7, 3) := by decide +kernel
theorem dt_Ta_readSign_52 : decode prog_11_method_8_code 52 = .ok (.iconst 1, 1) := by decide +kernel
theorem dt_Ta_readSign_53 : decode prog_11_method_8_code 53 = .ok (.goto 4, 3) := by decide +kernel
theorem dt_Ta_readSign_56 : decode prog_11_method_8_code 56 = .ok (.iconst 0, 1) := by decide +kernel
theorem dt_Ta_readSign_57 : decode prog_11_method_8_code 57 = .ok (.istore_n 1, 1) := by decide +kernel
theorem dt_Ta_readSign_58 : decode prog_11_method_8_code 58 = .ok (.iload_n 1, 1) := by decide +kernel
theorem dt_Ta_readSign_59 : decode prog_11_method_8_code 59 = .ok (.ifCond .eq 53, 3) := by decide +kernel
theorem dt_Ta_readSign_62 : decode prog_11_method_8_code 62 = .ok (.aload_n 0, 1) := by decide +kernel
theorem dt_Ta_readSign_63 : decode prog_11_method_8_code 63 = .ok (.getfield 37, 3) := by decide +kernel
theorem dt_Ta_readSign_66 : decode prog_11_method_8_code 66 = .ok (.bipush 60, 2) := by decide +kernel
theorem dt_Ta_readSign_68 : decode prog_11_method_8_code 68 = .ok (.if_icmp .eq 12, 3) := by decide +kernel
theorem dt_Ta_readSign_71 : decode prog_11_method_8_code 71 = .ok (.aload_n 0, 1) := by decide +kernel
theorem dt_Ta_readSign_72 : decode prog_11_method_8_code 72 = .ok (.getfield 37, 3) := by decide +kernel
theorem dt_Ta_readSign_75 : decode prog_11_method_8_code 75 = .ok (.bipush 62, 2) := by decide +kernel
theorem dt_Ta_readSign_77 : decode prog_11_method_8_code 77 = .ok (.if_icmp .ne 35, 3) := by decide +kernel
theorem dt_Ta_readSign_80 : decode prog_11_method_8_code 80 = .ok (.aload_n 0, 1) := by decide +kernel
theorem dt_Ta_readSign_81 : decode prog_11_method_8_code 81 = .ok (.aload_n 0, 1) := by decide +kernel
theorem dt_Ta_readSign_82 : decode prog_11_method_8_code 82 = .ok (.getfield 37, 3) := by decide +kernel
theorem dt_Ta_readSign_85 : decode prog_11_method_8_code 85 = .ok (.bipush 60, 2) := by decide +kernel
theorem dt_Ta_readSign_87 : decode prog_11_method_8_code 87 = .ok (.if_icmp .ne 9, 3) := by decide +kernel
theorem dt_Ta_readSign_90 : decode prog_11_method_8_code 90 = .ok (.sipush 256, 3) := by decide +kernel
theorem dt_Ta_readSign_93 : decode prog_11_method_8_code 93 = .ok (.goto 6, 3) := by decide +kernel
theorem dt_Ta_readSign_96 : decode prog_11_method_8_code 96 = .ok (.sipush 257, 3) := by decide +kernel
theorem dt_Ta_readSign_99 : decode prog_11_method_8_code 99 = .ok (.putfield 37, 3) := by decide +kernel
theorem dt_Ta_readSign_102 : decode prog_11_method_8_code 102 = .ok (.aload_n 0, 1) := by decide +kernel
theorem dt_Ta_readSign_103 : decode prog_11_method_8_code 103 = .ok (.dup, 1) := by decide +kernel
theorem dt_Ta_readSign_104 : decode prog_11_method_8_code 104 = .ok (.getfield 25, 3) := by decide +kernel
theorem dt_Ta_readSign_107 : decode prog_11_method_8_code 107 = .ok (.iconst 1, 1) := by decide +kernel
theorem dt_Ta_readSign_108 : decode prog_11_method_8_code 108 = .ok (.iadd, 1) := by decide +kernel
theorem dt_Ta_readSign_109 : decode prog_11_method_8_code 109 = .ok (.putfield 25, 3) := by decide +kernel
theorem dt_Ta_readSign_112 : decode prog_11_method_8_code 112 = .ok (.return_, 1) := by decide +kernel
theorem dt_Ta_advance_0 : decode prog_11_method_5_code 0 = .ok (.aload_n 0, 1) := by decide +kernel
theorem dt_Ta_advance_1 : decode prog_11_method_5_code 1 = .ok (.getfield 25, 3) := by decide +kernel
theorem dt_Ta_advance_4 : decode prog_11_method_5_code 4 = .ok (.aload_n 0, 1) := by decide +kernel
theorem dt_Ta_advance_5 : decode prog_11_method_5_code 5 = .ok (.getfield 21, 3) := by decide +kernel
theorem dt_Ta_advance_8 : decode prog_11_method_5_code 8 = .ok (.if_icmp .ge 30, 3) := by decide +kernel
theorem dt_Ta_advance_11 : decode prog_11_method_5_code 11 = .ok (.aload_n 0, 1) := by decide +kernel
theorem dt_Ta_advance_12 : decode prog_11_method_5_code 12 = .ok (.getfield 9, 3) := by decide +kernel
theorem dt_Ta_advance_15 : decode prog_11_method_5_code 15 = .ok (.aload_n 0, 1) := by decide +kernel
theorem dt_Ta_advance_16 : decode prog_11_method_5_code 16 = .ok (.getfield 25, 3) := by decide +kernel
theorem dt_Ta_advance_19 : decode prog_11_method_5_code 19 = .ok (.baload, 1) := by decide +kernel
theorem dt_Ta_advance_20 : decode prog_11_method_5_code 20 = .ok (.bipush 32, 2) := by decide +kernel
theorem dt_Ta_advance_22 : decode prog_11_method_5_code 22 = .ok (.if_icmp .ne 16, 3) := by decide +kernel
theorem dt_Ta_advance_25 : decode prog_11_method_5_code 25 = .ok (.aload_n 0, 1) := by decide +kernel
theorem dt_Ta_advance_26 : decode prog_11_method_5_code 26 = .ok (.dup, 1) := by decide +kernel
theorem dt_Ta_advance_27 : decode prog_11_method_5_code 27 = .ok (.getfield 25, 3) := by decide +kernel
theorem dt_Ta_advance_30 : decode prog_11_method_5_code 30 = .ok (.iconst 1, 1) := by decide +kernel
theorem dt_Ta_advance_31 : decode prog_11_method_5_code 31 = .ok (.iadd, 1) := by decide +kernel
theorem dt_Ta_advance_32 : decode prog_11_method_5_code 32 = .ok (.putfield 25, 3) := by decide +kernel
theorem dt_Ta_advance_35 : decode prog_11_method_5_code 35 = .ok (.goto (-35), 3) := by decide +kernel
theorem dt_Ta_advance_38 : decode prog_11_method_5_code 38 = .ok (.aload_n 0, 1) := by decide +kernel
theorem dt_Ta_advance_39 : decode prog_11_method_5_code 39 = .ok (.aload_n 0, 1) := by decide +kernel
theorem dt_Ta_advance_40 : decode prog_11_method_5_code 40 = .ok (.getfield 25, 3) := by decide +kernel
theorem dt_Ta_advance_43 : decode prog_11_method_5_code 43 = .ok (.putfield 34, 3) := by decide +kernel
theorem dt_Ta_advance_46 : decode prog_11_method_5_code 46 = .ok (.aload_n 0, 1) := by decide +kernel
theorem dt_Ta_advance_47 : decode prog_11_method_5_code 47 = .ok (.iconst (-1), 1) := by decide +kernel
theorem dt_Ta_advance_48 : decode prog_11_method_5_code 48 = .ok (.putfield 40, 3) := by decide +kernel
theorem dt_Ta_advance_51 : decode prog_11_method_5_code 51 = .ok (.aload_n 0, 1) := by decide +kernel
theorem dt_Ta_advance_52 : decode prog_11_method_5_code 52 = .ok (.iconst (-1), 1) := by decide +kernel
theorem dt_Ta_advance_53 : decode prog_11_method_5_code 53 = .ok (.putfield 43, 3) := by decide +kernel
theorem dt_Ta_advance_56 : decode prog_11_method_5_code 56 = .ok (.aload_n 0, 1) := by decide +kernel
theorem dt_Ta_advance_57 : decode prog_11_method_5_code 57 = .ok (.getfield 25, 3) := by decide +kernel
theorem dt_Ta_advance_60 : decode prog_11_method_5_code 60 = .ok (.aload_n 0, 1) := by decide +kernel
theorem dt_Ta_advance_61 : decode prog_11_method_5_code 61 = .ok (.getfield 21, 3) := by decide +kernel
theorem dt_Ta_advance_64 : decode prog_11_method_5_code 64 = .ok (.if_icmp .lt 11, 3) := by decide +kernel
theorem dt_Ta_advance_67 : decode prog_11_method_5_code 67 = .ok (.aload_n 0, 1) := by decide +kernel
theorem dt_Ta_advance_68 : decode prog_11_method_5_code 68 = .ok (.iconst (-1), 1) := by decide +kernel
theorem dt_Ta_advance_69 : decode prog_11_method_5_code 69 = .ok (.putfield 37, 3) := by decide +kernel
theorem dt_Ta_advance_72 : decode prog_11_method_5_code 72 = .ok (.goto 89, 3) := by decide +kernel
theorem dt_Ta_advance_75 : decode prog_11_method_5_code 75 = .ok (.aload_n 0, 1) := by decide +kernel
theorem dt_Ta_advance_76 : decode prog_11_method_5_code 76 = .ok (.getfield 9, 3) := by decide +kernel
theorem dt_Ta_advance_79 : decode prog_11_method_5_code 79 = .ok (.aload_n 0, 1) := by decide +kernel
theorem dt_Ta_advance_80 : decode prog_11_method_5_code 80 = .ok (.getfield 25, 3) := by decide +kernel
theorem dt_Ta_advance_83 : decode prog_11_method_5_code 83 = .ok (.baload, 1) := by decide +kernel
theorem dt_Ta_advance_84 : decode prog_11_method_5_code 84 = .ok (.bipush 48, 2) := by decide +kernel
theorem dt_Ta_advance_86 : decode prog_11_method_5_code 86 = .ok (.if_icmp .lt 30, 3) := by decide +kernel
theorem dt_Ta_advance_89 : decode prog_11_method_5_code 89 = .ok (.aload_n 0, 1) := by decide +kernel
theorem dt_Ta_advance_90 : decode prog_11_method_5_code 90 = .ok (.getfield 9, 3) := by decide +kernel
theorem dt_Ta_advance_93 : decode prog_11_method_5_code 93 = .ok (.aload_n 0, 1) := by decide +kernel
theorem dt_Ta_advance_94 : decode prog_11_method_5_code 94 = .ok (.getfield 25, 3) := by decide +kernel
theorem dt_Ta_advance_97 : decode prog_11_method_5_code 97 = .ok (.baload, 1) := by decide +kernel
theorem dt_Ta_advance_98 : decode prog_11_method_5_code 98 = .ok (.bipush 57, 2) := by decide +kernel
theorem dt_Ta_advance_100 : decode prog_11_method_5_code 100 = .ok (.if_icmp .gt 16, 3) := by decide +kernel
theorem dt_Ta_advance_103 : decode prog_11_method_5_code 103 = .ok (.aload_n 0, 1) := by decide +kernel
theorem dt_Ta_advance_104 : decode prog_11_method_5_code 104 = .ok (.bipush (-2), 2) := by decide +kernel
theorem dt_Ta_advance_106 : decode prog_11_method_5_code 106 = .ok (.putfield 37, 3) := by decide +kernel
theorem dt_Ta_advance_109 : decode prog_11_method_5_code 109 = .ok (.aload_n 0, 1) := by decide +kernel
theorem dt_Ta_advance_110 : decode prog_11_method_5_code 110 = .ok (.invokevirtual 46, 3) := by decide +kernel
theorem dt_Ta_advance_113 : decode prog_11_method_5_code 113 = .ok (.goto 48, 3) := by decide +kernel
theorem dt_Ta_advance_116 : decode prog_11_method_5_code 116 = .ok (.aload_n 0, 1) := by decide +kernel
theorem dt_Ta_advance_117 : decode prog_11_method_5_code 117 = .ok (.getfield 9, 3) := by decide +kernel
theorem dt_Ta_advance_120 : decode prog_11_method_5_code 120 = .ok (.aload_n 0, 1) := by decide +kernel
theorem dt_Ta_advance_121 : decode prog_11_method_5_code 121 = .ok (.getfield 25, 3) := by decide +kernel
theorem dt_Ta_advance_124 : decode prog_11_method_5_code 124 = .ok (.baload, 1) := by decide +kernel
theorem dt_Ta_advance_125 : decode prog_11_method_5_code 125 = .ok (.bipush 97, 2) := by decide +kernel
theorem dt_Ta_advance_127 : decode prog_11_method_5_code 127 = .ok (.if_icmp .lt 30, 3) := by decide +kernel
theorem dt_Ta_advance_130 : decode prog_11_method_5_code 130 = .ok (.aload_n 0, 1) := by decide +kernel
theorem dt_Ta_advance_131 : decode prog_11_method_5_code 131 = .ok (.getfield 9, 3) := by decide +kernel
theorem dt_Ta_advance_134 : decode prog_11_method_5_code 134 = .ok (.aload_n 0, 1) := by decide +kernel
theorem dt_Ta_advance_135 : decode prog_11_method_5_code 135 = .ok (.getfield 25, 3) := by decide +kernel
theorem dt_Ta_advance_138 : decode prog_11_method_5_code 138 = .ok (.baload, 1) := by decide +kernel
theorem dt_Ta_advance_139 : decode prog_11_method_5_code 139 = .ok (.bipush 122, 2) := by decide +kernel
theorem dt_Ta_advance_141 : decode prog_11_method_5_code 141 = .ok (.if_icmp .gt 16, 3) := by decide +kernel
theorem dt_Ta_advance_144 : decode prog_11_method_5_code 144 = .ok (.aload_n 0, 1) := by decide +kernel
theorem dt_Ta_advance_145 : decode prog_11_method_5_code 145 = .ok (.bipush (-3), 2) := by decide +kernel
theorem dt_Ta_advance_147 : decode prog_11_method_5_code 147 = .ok (.putfield 37, 3) := by decide +kernel
theorem dt_Ta_advance_150 : decode prog_11_method_5_code 150 = .ok (.aload_n 0, 1) := by decide +kernel
theorem dt_Ta_advance_151 : decode prog_11_method_5_code 151 = .ok (.invokevirtual 49, 3) := by decide +kernel
theorem dt_Ta_advance_154 : decode prog_11_method_5_code 154 = .ok (.goto 7, 3) := by decide +kernel
theorem dt_Ta_advance_157 : decode prog_11_method_5_code 157 = .ok (.aload_n 0, 1) := by decide +kernel
theorem dt_Ta_advance_158 : decode prog_11_method_5_code 158 = .ok (.invokevirtual 52, 3) := by decide +kernel
theorem dt_Ta_advance_161 : decode prog_11_method_5_code 161 = .ok (.return_, 1) := by decide +kernel
theorem dt_Ta_begin_0 : decode prog_11_method_3_code 0 = .ok (.aload_n 0, 1) := by decide +kernel
theorem dt_Ta_begin_1 : decode prog_11_method_3_code 1 = .ok (.aload_n 1, 1) := by decide +kernel
theorem dt_Ta_begin_2 : decode prog_11_method_3_code 2 = .ok (.putfield 17, 3) := by decide +kernel
theorem dt_Ta_begin_5 : decode prog_11_method_3_code 5 = .ok (.aload_n 0, 1) := by decide +kernel
theorem dt_Ta_begin_6 : decode prog_11_method_3_code 6 = .ok (.iconst 0, 1) := by decide +kernel
theorem dt_Ta_begin_7 : decode prog_11_method_3_code 7 = .ok (.putfield 25, 3) := by decide +kernel
theorem dt_Ta_begin_10 : decode prog_11_method_3_code 10 = .ok (.aload_n 0, 1) := by decide +kernel
theorem dt_Ta_begin_11 : decode prog_11_method_3_code 11 = .ok (.iconst 0, 1) := by decide +kernel
theorem dt_Ta_begin_12 : decode prog_11_method_3_code 12 = .ok (.putfield 28, 3) := by decide +kernel
theorem dt_Ta_begin_15 : decode prog_11_method_3_code 15 = .ok (.aload_n 0, 1) := by decide +kernel
theorem dt_Ta_begin_16 : decode prog_11_method_3_code 16 = .ok (.invokevirtual 31, 3) := by decide +kernel
theorem dt_Ta_begin_19 : decode prog_11_method_3_code 19 = .ok (.return_, 1) := by decide +kernel
theorem dt_Ta_takeNumber_0 : decode prog_11_method_9_code 0 = .ok (.aload_n 0, 1) := by decide +kernel
theorem dt_Ta_takeNumber_1 : decode prog_11_method_9_code 1 = .ok (.getfield 40, 3) := by decide +kernel
theorem dt_Ta_takeNumber_4 : decode prog_11_method_9_code 4 = .ok (.istore_n 3, 1) := by decide +kernel
theorem dt_Ta_takeNumber_5 : decode prog_11_method_9_code 5 = .ok (.aload_n 0, 1) := by decide +kernel
theorem dt_Ta_takeNumber_6 : decode prog_11_method_9_code 6 = .ok (.getfield 37, 3) := by decide +kernel
theorem dt_Ta_takeNumber_9 : decode prog_11_method_9_code 9 = .ok (.bipush (-2), 2) := by decide +kernel
theorem dt_Ta_takeNumber_11 : decode prog_11_method_9_code 11 = .ok (.if_icmp .eq 11, 3) := by decide +kernel
theorem dt_Ta_takeNumber_14 : decode prog_11_method_9_code 14 = .ok (.aload_n 0, 1) := by decide +kernel
theorem dt_Ta_takeNumber_15 : decode prog_11_method_9_code 15 = .ok (.iconst 0, 1) := by decide +kernel
theorem dt_Ta_takeNumber_16 : decode prog_11_method_9_code 16 = .ok (.invokevirtual 64, 3) := by decide +kernel
theorem dt_Ta_takeNumber_19 : decode prog_11_method_9_code 19 = .ok (.goto 32, 3) := by decide +kernel
theorem dt_Ta_takeNumber_22 : decode prog_11_method_9_code 22 = .ok (.iload_n 3, 1) := by decide +kernel
theorem dt_Ta_takeNumber_23 : decode prog_11_method_9_code 23 = .ok (.iload_n 1, 1) := by decide +kernel
theorem dt_Ta_takeNumber_24 : decode prog_11_method_9_code 24 = .ok (.if_icmp .lt 13, 3) := by decide +kernel
theorem dt_Ta_takeNumber_27 : decode prog_11_method_9_code 27 = .ok (.iload_n 3, 1) := by decide +kernel
theorem dt_Ta_takeNumber_28 : decode prog_11_method_9_code 28 = .ok (.iload_n 2, 1) := by decide +kernel
theorem dt_Ta_takeNumber_29 : decode prog_11_method_9_code 29 = .ok (.if_icmp .gt 8, 3) := by decide +kernel
theorem dt_Ta_takeNumber_32 : decode prog_11_method_9_code 32 = .ok (.iload_n 3, 1) := by decide +kernel
theorem dt_Ta_takeNumber_33 : decode prog_11_method_9_code 33 = .ok (.iconst (-1), 1) := by decide +kernel
theorem dt_Ta_takeNumber_34 : decode prog_11_method_9_code 34 = .ok (.if_icmp .ne 11, 3) := by decide +kernel
theorem dt_Ta_takeNumber_37 : decode prog_11_method_9_code 37 = .ok (.aload_n 0, 1) := by decide +kernel
theorem dt_Ta_takeNumber_38 : decode prog_11_method_9_code 38 = .ok (.iconst 1, 1) := by decide +kernel
theorem dt_Ta_takeNumber_39 : decode prog_11_method_9_code 39 = .ok (.invokevirtual 64, 3) := by decide +kernel
theorem dt_Ta_takeNumber_42 : decode prog_11_method_9_code 42 = .ok (.goto 9, 3) := by decide +kernel
theorem dt_Ta_takeNumber_45 : decode prog_11_method_9_code 45 = .ok (.aload_n 0, 1) := by decide +kernel
theorem dt_Ta_takeNumber_46 : decode prog_11_method_9_code 46 = .ok (.invokevirtual 31, 3) := by decide +kernel
theorem dt_Ta_takeNumber_49 : decode prog_11_method_9_code 49 = .ok (.iload_n 3, 1) := by decide +kernel
theorem dt_Ta_takeNumber_50 : decode prog_11_method_9_code 50 = .ok (.ireturn, 1) := by decide +kernel
theorem dt_Ta_takeNumber_51 : decode prog_11_method_9_code 51 = .ok (.iconst (-1), 1) := by decide +kernel
theorem dt_Ta_takeNumber_52 : decode prog_11_method_9_code 52 = .ok (.ireturn, 1) := by decide +kernel