section MO
variable {tape : Int → Int} {taped : Int} {rules : Int} {sign : Int → Int} {leng : Int → Int} {clause : Int → Int} {clauses : Int → Int} {read : Int → Int} {next : Int} {wrong : Int} {number : Int} {text : Int} {made : Int} {deep : Int} {lines : Int} {opn : Int → Int} {opened : Int} {stack : Int → Int64} {top : Int} {word : Int → Int64} {said : Int → Int} {xx : Int} {was : Int → Int} {undone : Int} {kept : Int → Int} {sumOf : Int → Int} {faced : Int → Int} {slotAt : Int → Int} {dayAt : Int → Int} {row : Int → Int} {bestRow : Int → Int} {tMany : Int} {tMost : Int} {drawX : Int64} {images : Int → Int} {imageX : Int → Int} {isMade : Int → Int}
theorem de_Mo_gathersTrades_0 : decode prog_14_method_99_code 0 = .ok (.iconst 0, 1) := by decide +kernel
theorem de_Mo_gathersTrades_1 : decode prog_14_method_99_code 1 = .ok (.istore_n 1, 1) := by decide +kernel
theorem de_Mo_gathersTrades_2 : decode prog_14_method_99_code 2 = .ok (.iconst 0, 1) := by decide +kernel
theorem de_Mo_gathersTrades_3 : decode prog_14_method_99_code 3 = .ok (.istore_n 2, 1) := by decide +kernel
theorem de_Mo_gathersTrades_4 : decode prog_14_method_99_code 4 = .ok (.aload_n 0, 1) := by decide +kernel
theorem de_Mo_gathersTrades_5 : decode prog_14_method_99_code 5 = .ok (.iconst 0, 1) := by decide +kernel
theorem de_Mo_gathersTrades_6 : decode prog_14_method_99_code 6 = .ok (.putfield 420, 3) := by decide +kernel
theorem de_Mo_gathersTrades_9 : decode prog_14_method_99_code 9 = .ok (.aload_n 0, 1) := by decide +kernel
theorem de_Mo_gathersTrades_10 : decode prog_14_method_99_code 10 = .ok (.getfield 60, 3) := by decide +kernel
theorem de_Mo_gathersTrades_13 : decode prog_14_method_99_code 13 = .ok (.iconst 0, 1) := by decide +kernel
theorem de_Mo_gathersTrades_14 : decode prog_14_method_99_code 14 = .ok (.iconst (-1), 1) := by decide +kernel
theorem de_Mo_gathersTrades_15 : decode prog_14_method_99_code 15 = .ok (.iastore, 1) := by decide +kernel
theorem de_Mo_gathersTrades_16 : decode prog_14_method_99_code 16 = .ok (.iload_n 2, 1) := by decide +kernel
theorem de_Mo_gathersTrades_17 : decode prog_14_method_99_code 17 = .ok (.ifCond .lt 157, 3) := by decide +kernel
theorem de_Mo_gathersTrades_20 : decode prog_14_method_99_code 20 = .ok (.iload_n 2, 1) := by decide +kernel
theorem de_Mo_gathersTrades_21 : decode prog_14_method_99_code 21 = .ok (.aload_n 0, 1) := by decide +kernel
theorem de_Mo_gathersTrades_22 : decode prog_14_method_99_code 22 = .ok (.getfield 39, 3) := by decide +kernel
theorem de_Mo_gathersTrades_25 : decode prog_14_method_99_code 25 = .ok (.iconst 1, 1) := by decide +kernel
theorem de_Mo_gathersTrades_26 : decode prog_14_method_99_code 26 = .ok (.iaload, 1) := by decide +kernel
theorem de_Mo_gathersTrades_27 : decode prog_14_method_99_code 27 = .ok (.if_icmp .ne 7, 3) := by decide +kernel
theorem de_Mo_gathersTrades_30 : decode prog_14_method_99_code 30 = .ok (.aload_n 0, 1) := by decide +kernel
theorem de_Mo_gathersTrades_31 : decode prog_14_method_99_code 31 = .ok (.invokevirtual 426, 3) := by decide +kernel
theorem de_Mo_gathersTrades_34 : decode prog_14_method_99_code 34 = .ok (.iload_n 2, 1) := by decide +kernel
theorem de_Mo_gathersTrades_35 : decode prog_14_method_99_code 35 = .ok (.aload_n 0, 1) := by decide +kernel
theorem de_Mo_gathersTrades_36 : decode prog_14_method_99_code 36 = .ok (.getfield 39, 3) := by decide +kernel
theorem de_Mo_gathersTrades_39 : decode prog_14_method_99_code 39 = .ok (.iconst 1, 1) := by decide +kernel
theorem de_Mo_gathersTrades_40 : decode prog_14_method_99_code 40 = .ok (.iaload, 1) := by decide +kernel
theorem de_Mo_gathersTrades_41 : decode prog_14_method_99_code 41 = .ok (.if_icmp .ne 12, 3) := by decide +kernel
theorem de_Mo_gathersTrades_44 : decode prog_14_method_99_code 44 = .ok (.aload_n 0, 1) := by decide +kernel
theorem de_Mo_gathersTrades_45 : decode prog_14_method_99_code 45 = .ok (.getfield 39, 3) := by decide +kernel
theorem de_Mo_gathersTrades_48 : decode prog_14_method_99_code 48 = .ok (.iconst 1, 1) := by decide +kernel
theorem de_Mo_gathersTrades_49 : decode prog_14_method_99_code 49 = .ok (.iaload, 1) := by decide +kernel
theorem de_Mo_gathersTrades_50 : decode prog_14_method_99_code 50 = .ok (.goto 11, 3) := by decide +kernel
theorem de_Mo_gathersTrades_53 : decode prog_14_method_99_code 53 = .ok (.aload_n 0, 1) := by decide +kernel
theorem de_Mo_gathersTrades_54 : decode prog_14_method_99_code 54 = .ok (.getfield 60, 3) := by decide +kernel
theorem de_Mo_gathersTrades_57 : decode prog_14_method_99_code 57 = .ok (.iload_n 2, 1) := by decide +kernel
theorem de_Mo_gathersTrades_58 : decode prog_14_method_99_code 58 = .ok (.iaload, 1) := by decide +kernel
theorem de_Mo_gathersTrades_59 : decode prog_14_method_99_code 59 = .ok (.iconst 1, 1) := by decide +kernel
theorem de_Mo_gathersTrades_60 : decode prog_14_method_99_code 60 = .ok (.iadd, 1) := by decide +kernel
theorem de_Mo_gathersTrades_61 : decode prog_14_method_99_code 61 = .ok (.istore_n 3, 1) := by decide +kernel
theorem de_Mo_gathersTrades_62 : decode prog_14_method_99_code 62 = .ok (.iload_n 3, 1) := by decide +kernel
theorem de_Mo_gathersTrades_63 : decode prog_14_method_99_code 63 = .ok (.aload_n 0, 1) := by decide +kernel
theorem de_Mo_gathersTrades_64 : decode prog_14_method_99_code 64 = .ok (.getfield 39, 3) := by decide +kernel
theorem de_Mo_gathersTrades_67 : decode prog_14_method_99_code 67 = .ok (.iconst 1, 1) := by decide +kernel
theorem de_Mo_gathersTrades_68 : decode prog_14_method_99_code 68 = .ok (.iaload, 1) := by decide +kernel
theorem de_Mo_gathersTrades_69 : decode prog_14_method_99_code 69 = .ok (.if_icmp .ge 36, 3) := by decide +kernel
theorem de_Mo_gathersTrades_72 : decode prog_14_method_99_code 72 = .ok (.iload_n 1, 1) := by decide +kernel
theorem de_Mo_gathersTrades_73 : decode prog_14_method_99_code 73 = .ok (.iload_n 3, 1) := by decide +kernel
theorem de_Mo_gathersTrades_74 : decode prog_14_method_99_code 74 = .ok (.invokestatic 294, 3) := by decide +kernel
theorem de_Mo_gathersTrades_77 : decode prog_14_method_99_code 77 = .ok (.ifCond .ne 22, 3) := by decide +kernel
theorem de_Mo_gathersTrades_80 : decode prog_14_method_99_code 80 = .ok (.aload_n 0, 1) := by decide +kernel
theorem de_Mo_gathersTrades_81 : decode prog_14_method_99_code 81 = .ok (.getfield 57, 3) := by decide +kernel
theorem de_Mo_gathersTrades_84 : decode prog_14_method_99_code 84 = .ok (.bipush 7, 2) := by decide +kernel
theorem de_Mo_gathersTrades_86 : decode prog_14_method_99_code 86 = .ok (.iload_n 2, 1) := by decide +kernel
theorem de_Mo_gathersTrades_87 : decode prog_14_method_99_code 87 = .ok (.imul, 1) := by decide +kernel
theorem de_Mo_gathersTrades_88 : decode prog_14_method_99_code 88 = .ok (.iload_n 3, 1) := by decide +kernel
theorem de_Mo_gathersTrades_89 : decode prog_14_method_99_code 89 = .ok (.iadd, 1) := by decide +kernel
theorem de_Mo_gathersTrades_90 : decode prog_14_method_99_code 90 = .ok (.iaload, 1) := by decide +kernel
theorem de_Mo_gathersTrades_91 : decode prog_14_method_99_code 91 = .ok (.aload_n 0, 1) := by decide +kernel
theorem de_Mo_gathersTrades_92 : decode prog_14_method_99_code 92 = .ok (.iload_n 2, 1) := by decide +kernel
theorem de_Mo_gathersTrades_93 : decode prog_14_method_99_code 93 = .ok (.invokevirtual 429, 3) := by decide +kernel
theorem de_Mo_gathersTrades_96 : decode prog_14_method_99_code 96 = .ok (.if_icmp .ge 9, 3) := by decide +kernel
theorem de_Mo_gathersTrades_99 : decode prog_14_method_99_code 99 = .ok (.iinc 3 1, 3) := by decide +kernel
theorem de_Mo_gathersTrades_102 : decode prog_14_method_99_code 102 = .ok (.goto (-40), 3) := by decide +kernel
theorem de_Mo_gathersTrades_105 : decode prog_14_method_99_code 105 = .ok (.iload_n 3, 1) := by decide +kernel
theorem de_Mo_gathersTrades_106 : decode prog_14_method_99_code 106 = .ok (.aload_n 0, 1) := by decide +kernel
theorem de_Mo_gathersTrades_107 : decode prog_14_method_99_code 107 = .ok (.getfield 39, 3) := by decide +kernel
theorem de_Mo_gathersTrades_110 : decode prog_14_method_99_code 110 = .ok (.iconst 1, 1) := by decide +kernel
theorem de_Mo_gathersTrades_111 : decode prog_14_method_99_code 111 = .ok (.iaload, 1) := by decide +kernel
theorem de_Mo_gathersTrades_112 : decode prog_14_method_99_code 112 = .ok (.if_icmp .ne 26, 3) := by decide +kernel
theorem de_Mo_gathersTrades_115 : decode prog_14_method_99_code 115 = .ok (.iinc 2 (-1), 3) := by decide +kernel
theorem de_Mo_gathersTrades_118 : decode prog_14_method_99_code 118 = .ok (.iload_n 2, 1) := by decide +kernel
theorem de_Mo_gathersTrades_119 : decode prog_14_method_99_code 119 = .ok (.ifCond .lt (-103), 3) := by decide +kernel
theorem de_Mo_gathersTrades_122 : decode prog_14_method_99_code 122 = .ok (.iload_n 1, 1) := by decide +kernel
theorem de_Mo_gathersTrades_123 : decode prog_14_method_99_code 123 = .ok (.iconst 1, 1) := by decide +kernel
theorem de_Mo_gathersTrades_124 : decode prog_14_method_99_code 124 = .ok (.aload_n 0, 1) := by decide +kernel
theorem de_Mo_gathersTrades_125 : decode prog_14_method_99_code 125 = .ok (.getfield 60, 3) := by decide +kernel
theorem de_Mo_gathersTrades_128 : decode prog_14_method_99_code 128 = .ok (.iload_n 2, 1) := by decide +kernel
theorem de_Mo_gathersTrades_129 : decode prog_14_method_99_code 129 = .ok (.iaload, 1) := by decide +kernel
theorem de_Mo_gathersTrades_130 : decode prog_14_method_99_code 130 = .ok (.ishl, 1) := by decide +kernel
theorem de_Mo_gathersTrades_131 : decode prog_14_method_99_code 131 = .ok (.iconst (-1), 1) := by decide +kernel
theorem de_Mo_gathersTrades_132 : decode prog_14_method_99_code 132 = .ok (.ixor, 1) := by decide +kernel
theorem de_Mo_gathersTrades_133 : decode prog_14_method_99_code 133 = .ok (.iand, 1) := by decide +kernel
theorem de_Mo_gathersTrades_134 : decode prog_14_method_99_code 134 = .ok (.istore_n 1, 1) := by decide +kernel
theorem de_Mo_gathersTrades_135 : decode prog_14_method_99_code 135 = .ok (.goto (-119), 3) := by decide +kernel
theorem de_Mo_gathersTrades_138 : decode prog_14_method_99_code 138 = .ok (.aload_n 0, 1) := by decide +kernel
theorem de_Mo_gathersTrades_139 : decode prog_14_method_99_code 139 = .ok (.getfield 60, 3) := by decide +kernel
theorem de_Mo_gathersTrades_142 : decode prog_14_method_99_code 142 = .ok (.iload_n 2, 1) := by decide +kernel
theorem de_Mo_gathersTrades_143 : decode prog_14_method_99_code 143 = .ok (.iload_n 3, 1) := by decide +kernel
theorem de_Mo_gathersTrades_144 : decode prog_14_method_99_code 144 = .ok (.iastore, 1) := by decide +kernel
theorem de_Mo_gathersTrades_145 : decode prog_14_method_99_code 145 = .ok (.iload_n 1, 1) := by decide +kernel
theorem de_Mo_gathersTrades_146 : decode prog_14_method_99_code 146 = .ok (.iconst 1, 1) := by decide +kernel
theorem de_Mo_gathersTrades_147 : decode prog_14_method_99_code 147 = .ok (.iload_n 3, 1) := by decide +kernel
theorem de_Mo_gathersTrades_148 : decode prog_14_method_99_code 148 = .ok (.ishl, 1) := by decide +kernel
theorem de_Mo_gathersTrades_149 : decode prog_14_method_99_code 149 = .ok (.ior, 1) := by decide +kernel
theorem de_Mo_gathersTrades_150 : decode prog_14_method_99_code 150 = .ok (.istore_n 1, 1) := by decide +kernel
theorem de_Mo_gathersTrades_151 : decode prog_14_method_99_code 151 = .ok (.iinc 2 1, 3) := by decide +kernel
theorem de_Mo_gathersTrades_154 : decode prog_14_method_99_code 154 = .ok (.iload_n 2, 1) := by decide +kernel
theorem de_Mo_gathersTrades_155 : decode prog_14_method_99_code 155 = .ok (.aload_n 0, 1) := by decide +kernel
theorem de_Mo_gathersTrades_156 : decode prog_14_method_99_code 156 = .ok (.getfield 39, 3) := by decide +kernel
theorem de_Mo_gathersTrades_159 : decode prog_14_method_99_code 159 = .ok (.iconst 1, 1) := by decide +kernel
theorem de_Mo_gathersTrades_160 : decode prog_14_method_99_code 160 = .ok (.iaload, 1) := by decide +kernel
theorem de_Mo_gathersTrades_161 : decode prog_14_method_99_code 161 = .ok (.if_icmp .ge 10, 3) := by decide +kernel
theorem de_Mo_gathersTrades_164 : decode prog_14_method_99_code 164 = .ok (.aload_n 0, 1) := by decide +kernel
theorem de_Mo_gathersTrades_165 : decode prog_14_method_99_code 165 = .ok (.getfield 60, 3) := by decide +kernel
theorem de_Mo_gathersTrades_168 : decode prog_14_method_99_code 168 = .ok (.iload_n 2, 1) := by decide +kernel
theorem de_Mo_gathersTrades_169 : decode prog_14_method_99_code 169 = .ok (.iconst (-1), 1) := by decide +kernel
theorem de_Mo_gathersTrades_170 : decode prog_14_method_99_code 170 = .ok (.iastore, 1) := by decide +kernel
theorem de_Mo_gathersTrades_171 : decode prog_14_method_99_code 171 = .ok (.goto (-155), 3) := by decide +kernel
theorem de_Mo_gathersTrades_174 : decode prog_14_method_99_code 174 = .ok (.return_, 1) := by decide +kernel
theorem de_Mo_trade_0 : decode prog_14_method_100_code 0 = .ok (.aload_n 0, 1) := by decide +kernel
theorem de_Mo_trade_1 : decode prog_14_method_100_code 1 = .ok (.invokevirtual 323, 3) := by decide +kernel
theorem de_Mo_trade_4 : decode prog_14_method_100_code 4 = .ok (.ifCond .eq 15, 3) := by decide +kernel
theorem de_Mo_trade_7 : decode prog_14_method_100_code 7 = .ok (.iload_n 1, 1) := by decide +kernel
theorem de_Mo_trade_8 : decode prog_14_method_100_code 8 = .ok (.i2l, 1) := by decide +kernel
theorem de_Mo_trade_9 : decode prog_14_method_100_code 9 = .ok (.lconst 0, 1) := by decide +kernel
theorem de_Mo_trade_10 : decode prog_14_method_100_code 10 = .ok (.ldc2_w 432, 3) := by decide +kernel
theorem de_Mo_trade_13 : decode prog_14_method_100_code 13 = .ok (.invokestatic 115, 3) := by decide +kernel
theorem de_Mo_trade_16 : decode prog_14_method_100_code 16 = .ok (.ifCond .ne 7, 3) := by decide +kernel
theorem de_Mo_trade_19 : decode prog_14_method_100_code 19 = .ok (.ldc_w 399, 3) := by decide +kernel
theorem de_Mo_trade_22 : decode prog_14_method_100_code 22 = .ok (.ireturn, 1) := by decide +kernel
theorem de_Mo_trade_23 : decode prog_14_method_100_code 23 = .ok (.aload_n 0, 1) := by decide +kernel
theorem de_Mo_trade_24 : decode prog_14_method_100_code 24 = .ok (.invokevirtual 434, 3) := by decide +kernel
theorem de_Mo_trade_27 : decode prog_14_method_100_code 27 = .ok (.aload_n 0, 1) := by decide +kernel
theorem de_Mo_trade_28 : decode prog_14_method_100_code 28 = .ok (.invokevirtual 437, 3) := by decide +kernel
theorem de_Mo_trade_31 : decode prog_14_method_100_code 31 = .ok (.iload_n 1, 1) := by decide +kernel
theorem de_Mo_trade_32 : decode prog_14_method_100_code 32 = .ok (.ifCond .ne 8, 3) := by decide +kernel
theorem de_Mo_trade_35 : decode prog_14_method_100_code 35 = .ok (.aload_n 0, 1) := by decide +kernel
theorem de_Mo_trade_36 : decode prog_14_method_100_code 36 = .ok (.getfield 420, 3) := by decide +kernel
theorem de_Mo_trade_39 : decode prog_14_method_100_code 39 = .ok (.ireturn, 1) := by decide +kernel
theorem de_Mo_trade_40 : decode prog_14_method_100_code 40 = .ok (.iload_n 1, 1) := by decide +kernel
theorem de_Mo_trade_41 : decode prog_14_method_100_code 41 = .ok (.iconst 1, 1) := by decide +kernel
theorem de_Mo_trade_42 : decode prog_14_method_100_code 42 = .ok (.if_icmp .ne 10, 3) := by decide +kernel
theorem de_Mo_trade_45 : decode prog_14_method_100_code 45 = .ok (.aload_n 0, 1) := by decide +kernel
theorem de_Mo_trade_46 : decode prog_14_method_100_code 46 = .ok (.getfield 423, 3) := by decide +kernel
theorem de_Mo_trade_49 : decode prog_14_method_100_code 49 = .ok (.goto 28, 3) := by decide +kernel
theorem de_Mo_trade_52 : decode prog_14_method_100_code 52 = .ok (.iload_n 1, 1) := by decide +kernel
theorem de_Mo_trade_53 : decode prog_14_method_100_code 53 = .ok (.iconst 2, 1) := by decide +kernel
theorem de_Mo_trade_54 : decode prog_14_method_100_code 54 = .ok (.isub, 1) := by decide +kernel
theorem de_Mo_trade_55 : decode prog_14_method_100_code 55 = .ok (.aload_n 0, 1) := by decide +kernel
theorem de_Mo_trade_56 : decode prog_14_method_100_code 56 = .ok (.getfield 39, 3) := by decide +kernel
theorem de_Mo_trade_59 : decode prog_14_method_100_code 59 = .ok (.iconst 1, 1) := by decide +kernel
theorem de_Mo_trade_60 : decode prog_14_method_100_code 60 = .ok (.iaload, 1) := by decide +kernel
theorem de_Mo_trade_61 : decode prog_14_method_100_code 61 = .ok (.if_icmp .ge 14, 3) := by decide +kernel
theorem de_Mo_trade_64 : decode prog_14_method_100_code 64 = .ok (.aload_n 0, 1) := by decide +kernel
theorem de_Mo_trade_65 : decode prog_14_method_100_code 65 = .ok (.getfield 63, 3) := by decide +kernel
theorem de_Mo_trade_68 : decode prog_14_method_100_code 68 = .ok (.iload_n 1, 1) := by decide +kernel
theorem de_Mo_trade_69 : decode prog_14_method_100_code 69 = .ok (.iconst 2, 1) := by decide +kernel
theorem de_Mo_trade_70 : decode prog_14_method_100_code 70 = .ok (.isub, 1) := by decide +kernel
theorem de_Mo_trade_71 : decode prog_14_method_100_code 71 = .ok (.iaload, 1) := by decide +kernel
theorem de_Mo_trade_72 : decode prog_14_method_100_code 72 = .ok (.goto 5, 3) := by decide +kernel
theorem de_Mo_trade_75 : decode prog_14_method_100_code 75 = .ok (.bipush (-2), 2) := by decide +kernel
theorem de_Mo_trade_77 : decode prog_14_method_100_code 77 = .ok (.ireturn, 1) := by decide +kernel
end MO
