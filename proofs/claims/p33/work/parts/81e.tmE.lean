theorem dt_Ru_emit_0 : decode prog_10_method_4_code 0 = .ok (.aload_n 0, 1) := by decide +kernel
theorem dt_Ru_emit_1 : decode prog_10_method_4_code 1 = .ok (.getfield 23, 3) := by decide +kernel
theorem dt_Ru_emit_4 : decode prog_10_method_4_code 4 = .ok (.aload_n 0, 1) := by decide +kernel
theorem dt_Ru_emit_5 : decode prog_10_method_4_code 5 = .ok (.getfield 9, 3) := by decide +kernel
theorem dt_Ru_emit_8 : decode prog_10_method_4_code 8 = .ok (.arraylength, 1) := by decide +kernel
theorem dt_Ru_emit_9 : decode prog_10_method_4_code 9 = .ok (.if_icmp .ge 23, 3) := by decide +kernel
theorem dt_Ru_emit_12 : decode prog_10_method_4_code 12 = .ok (.aload_n 0, 1) := by decide +kernel
theorem dt_Ru_emit_13 : decode prog_10_method_4_code 13 = .ok (.getfield 9, 3) := by decide +kernel
theorem dt_Ru_emit_16 : decode prog_10_method_4_code 16 = .ok (.aload_n 0, 1) := by decide +kernel
theorem dt_Ru_emit_17 : decode prog_10_method_4_code 17 = .ok (.getfield 23, 3) := by decide +kernel
theorem dt_Ru_emit_20 : decode prog_10_method_4_code 20 = .ok (.iload_n 1, 1) := by decide +kernel
theorem dt_Ru_emit_21 : decode prog_10_method_4_code 21 = .ok (.iastore, 1) := by decide +kernel
theorem dt_Ru_emit_22 : decode prog_10_method_4_code 22 = .ok (.aload_n 0, 1) := by decide +kernel
theorem dt_Ru_emit_23 : decode prog_10_method_4_code 23 = .ok (.dup, 1) := by decide +kernel
theorem dt_Ru_emit_24 : decode prog_10_method_4_code 24 = .ok (.getfield 23, 3) := by decide +kernel
theorem dt_Ru_emit_27 : decode prog_10_method_4_code 27 = .ok (.iconst 1, 1) := by decide +kernel
theorem dt_Ru_emit_28 : decode prog_10_method_4_code 28 = .ok (.iadd, 1) := by decide +kernel
theorem dt_Ru_emit_29 : decode prog_10_method_4_code 29 = .ok (.putfield 23, 3) := by decide +kernel
theorem dt_Ru_emit_32 : decode prog_10_method_4_code 32 = .ok (.return_, 1) := by decide +kernel
theorem dt_Ru_countToken_0 : decode prog_10_method_5_code 0 = .ok (.aload_n 0, 1) := by decide +kernel
theorem dt_Ru_countToken_1 : decode prog_10_method_5_code 1 = .ok (.getfield 27, 3) := by decide +kernel
theorem dt_Ru_countToken_4 : decode prog_10_method_5_code 4 = .ok (.bipush 60, 2) := by decide +kernel
theorem dt_Ru_countToken_6 : decode prog_10_method_5_code 6 = .ok (.if_icmp .lt 8, 3) := by decide +kernel
theorem dt_Ru_countToken_9 : decode prog_10_method_5_code 9 = .ok (.aload_n 1, 1) := by decide +kernel
theorem dt_Ru_countToken_10 : decode prog_10_method_5_code 10 = .ok (.iconst 3, 1) := by decide +kernel
theorem dt_Ru_countToken_11 : decode prog_10_method_5_code 11 = .ok (.invokevirtual 33, 3) := by decide +kernel
theorem dt_Ru_countToken_14 : decode prog_10_method_5_code 14 = .ok (.aload_n 0, 1) := by decide +kernel
theorem dt_Ru_countToken_15 : decode prog_10_method_5_code 15 = .ok (.dup, 1) := by decide +kernel
theorem dt_Ru_countToken_16 : decode prog_10_method_5_code 16 = .ok (.getfield 27, 3) := by decide +kernel
theorem dt_Ru_countToken_19 : decode prog_10_method_5_code 19 = .ok (.iconst 1, 1) := by decide +kernel
theorem dt_Ru_countToken_20 : decode prog_10_method_5_code 20 = .ok (.iadd, 1) := by decide +kernel
theorem dt_Ru_countToken_21 : decode prog_10_method_5_code 21 = .ok (.putfield 27, 3) := by decide +kernel
theorem dt_Ru_countToken_24 : decode prog_10_method_5_code 24 = .ok (.return_, 1) := by decide +kernel
theorem dt_Ru_checkValue_0 : decode prog_10_method_9_code 0 = .ok (.aload_n 1, 1) := by decide +kernel
theorem dt_Ru_checkValue_1 : decode prog_10_method_9_code 1 = .ok (.getfield 30, 3) := by decide +kernel
theorem dt_Ru_checkValue_4 : decode prog_10_method_9_code 4 = .ok (.iconst (-1), 1) := by decide +kernel
theorem dt_Ru_checkValue_5 : decode prog_10_method_9_code 5 = .ok (.if_icmp .eq 16, 3) := by decide +kernel
theorem dt_Ru_checkValue_8 : decode prog_10_method_9_code 8 = .ok (.aload_n 1, 1) := by decide +kernel
theorem dt_Ru_checkValue_9 : decode prog_10_method_9_code 9 = .ok (.getfield 30, 3) := by decide +kernel
theorem dt_Ru_checkValue_12 : decode prog_10_method_9_code 12 = .ok (.bipush 12, 2) := by decide +kernel
theorem dt_Ru_checkValue_14 : decode prog_10_method_9_code 14 = .ok (.if_icmp .ge 7, 3) := by decide +kernel
theorem dt_Ru_checkValue_17 : decode prog_10_method_9_code 17 = .ok (.iconst 1, 1) := by decide +kernel
theorem dt_Ru_checkValue_18 : decode prog_10_method_9_code 18 = .ok (.goto 4, 3) := by decide +kernel
theorem dt_Ru_checkValue_21 : decode prog_10_method_9_code 21 = .ok (.iconst 0, 1) := by decide +kernel
theorem dt_Ru_checkValue_22 : decode prog_10_method_9_code 22 = .ok (.istore_n 2, 1) := by decide +kernel
theorem dt_Ru_checkValue_23 : decode prog_10_method_9_code 23 = .ok (.iload_n 2, 1) := by decide +kernel
theorem dt_Ru_checkValue_24 : decode prog_10_method_9_code 24 = .ok (.ifCond .ne 20, 3) := by decide +kernel
theorem dt_Ru_checkValue_27 : decode prog_10_method_9_code 27 = .ok (.aload_n 1, 1) := by decide +kernel
theorem dt_Ru_checkValue_28 : decode prog_10_method_9_code 28 = .ok (.getfield 53, 3) := by decide +kernel
theorem dt_Ru_checkValue_31 : decode prog_10_method_9_code 31 = .ok (.bipush (-2), 2) := by decide +kernel
theorem dt_Ru_checkValue_33 : decode prog_10_method_9_code 33 = .ok (.if_icmp .eq 11, 3) := by decide +kernel
theorem dt_Ru_checkValue_36 : decode prog_10_method_9_code 36 = .ok (.aload_n 1, 1) := by decide +kernel
theorem dt_Ru_checkValue_37 : decode prog_10_method_9_code 37 = .ok (.iconst 0, 1) := by decide +kernel
theorem dt_Ru_checkValue_38 : decode prog_10_method_9_code 38 = .ok (.invokevirtual 33, 3) := by decide +kernel
theorem dt_Ru_checkValue_41 : decode prog_10_method_9_code 41 = .ok (.goto 20, 3) := by decide +kernel
theorem dt_Ru_checkValue_44 : decode prog_10_method_9_code 44 = .ok (.iload_n 2, 1) := by decide +kernel
theorem dt_Ru_checkValue_45 : decode prog_10_method_9_code 45 = .ok (.ifCond .ne 16, 3) := by decide +kernel
theorem dt_Ru_checkValue_48 : decode prog_10_method_9_code 48 = .ok (.aload_n 1, 1) := by decide +kernel
theorem dt_Ru_checkValue_49 : decode prog_10_method_9_code 49 = .ok (.getfield 78, 3) := by decide +kernel
theorem dt_Ru_checkValue_52 : decode prog_10_method_9_code 52 = .ok (.iconst (-1), 1) := by decide +kernel
theorem dt_Ru_checkValue_53 : decode prog_10_method_9_code 53 = .ok (.if_icmp .ne 8, 3) := by decide +kernel
theorem dt_Ru_checkValue_56 : decode prog_10_method_9_code 56 = .ok (.aload_n 1, 1) := by decide +kernel
theorem dt_Ru_checkValue_57 : decode prog_10_method_9_code 57 = .ok (.iconst 1, 1) := by decide +kernel
theorem dt_Ru_checkValue_58 : decode prog_10_method_9_code 58 = .ok (.invokevirtual 33, 3) := by decide +kernel
theorem dt_Ru_checkValue_61 : decode prog_10_method_9_code 61 = .ok (.aload_n 0, 1) := by decide +kernel
theorem dt_Ru_checkValue_62 : decode prog_10_method_9_code 62 = .ok (.aload_n 1, 1) := by decide +kernel
theorem dt_Ru_checkValue_63 : decode prog_10_method_9_code 63 = .ok (.invokevirtual 72, 3) := by decide +kernel
theorem dt_Ru_checkValue_66 : decode prog_10_method_9_code 66 = .ok (.return_, 1) := by decide +kernel
theorem dt_Ru_addingOf_0 : decode prog_10_method_10_code 0 = .ok (.iload_n 0, 1) := by decide +kernel
theorem dt_Ru_addingOf_1 : decode prog_10_method_10_code 1 = .ok (.lookupswitch 33 #[(43, 27), (45, 30)], 27) := by decide +kernel
theorem dt_Ru_addingOf_28 : decode prog_10_method_10_code 28 = .ok (.bipush (-21), 2) := by decide +kernel
theorem dt_Ru_addingOf_30 : decode prog_10_method_10_code 30 = .ok (.ireturn, 1) := by decide +kernel
theorem dt_Ru_addingOf_31 : decode prog_10_method_10_code 31 = .ok (.bipush (-22), 2) := by decide +kernel
theorem dt_Ru_addingOf_33 : decode prog_10_method_10_code 33 = .ok (.ireturn, 1) := by decide +kernel
theorem dt_Ru_addingOf_34 : decode prog_10_method_10_code 34 = .ok (.iconst 0, 1) := by decide +kernel
theorem dt_Ru_addingOf_35 : decode prog_10_method_10_code 35 = .ok (.ireturn, 1) := by decide +kernel
theorem dt_Ru_timingOf_0 : decode prog_10_method_11_code 0 = .ok (.iload_n 0, 1) := by decide +kernel
theorem dt_Ru_timingOf_1 : decode prog_10_method_11_code 1 = .ok (.lookupswitch 44 #[(37, 41), (42, 35), (47, 38)], 35) := by decide +kernel
theorem dt_Ru_timingOf_36 : decode prog_10_method_11_code 36 = .ok (.bipush (-23), 2) := by decide +kernel
theorem dt_Ru_timingOf_38 : decode prog_10_method_11_code 38 = .ok (.ireturn, 1) := by decide +kernel
theorem dt_Ru_timingOf_39 : decode prog_10_method_11_code 39 = .ok (.bipush (-24), 2) := by decide +kernel
theorem dt_Ru_timingOf_41 : decode prog_10_method_11_code 41 = .ok (.ireturn, 1) := by decide +kernel
theorem dt_Ru_timingOf_42 : decode prog_10_method_11_code 42 = .ok (.bipush (-25), 2) := by decide +kernel
theorem dt_Ru_timingOf_44 : decode prog_10_method_11_code 44 = .ok (.ireturn, 1) := by decide +kernel
theorem dt_Ru_timingOf_45 : decode prog_10_method_11_code 45 = .ok (.iconst 0, 1) := by decide +kernel
theorem dt_Ru_timingOf_46 : decode prog_10_method_11_code 46 = .ok (.ireturn, 1) := by decide +kernel
theorem dt_Ru_comparisonOf_0 : decode prog_10_method_12_code 0 = .ok (.iload_n 0, 1) := by decide +kernel
theorem dt_Ru_comparisonOf_1 : decode prog_10_method_12_code 1 = .ok (.lookupswitch 66 #[(60, 51), (61, 57), (62, 63), (256, 54), (257, 60)], 51) := by decide +kernel
theorem dt_Ru_comparisonOf_52 : decode prog_10_method_12_code 52 = .ok (.bipush (-26), 2) := by decide +kernel
theorem dt_Ru_comparisonOf_54 : decode prog_10_method_12_code 54 = .ok (.ireturn, 1) := by decide +kernel
theorem dt_Ru_comparisonOf_55 : decode prog_10_method_12_code 55 = .ok (.bipush (-27), 2) := by decide +kernel
theorem dt_Ru_comparisonOf_57 : decode prog_10_method_12_code 57 = .ok (.ireturn, 1) := by decide +kernel
theorem dt_Ru_comparisonOf_58 : decode prog_10_method_12_code 58 = .ok (.bipush (-28), 2) := by decide +kernel
theorem dt_Ru_comparisonOf_60 : decode prog_10_method_12_code 60 = .ok (.ireturn, 1) := by decide +kernel
theorem dt_Ru_comparisonOf_61 : decode prog_10_method_12_code 61 = .ok (.bipush (-29), 2) := by decide +kernel
theorem dt_Ru_comparisonOf_63 : decode prog_10_method_12_code 63 = .ok (.ireturn, 1) := by decide +kernel
theorem dt_Ru_comparisonOf_64 : decode prog_10_method_12_code 64 = .ok (.bipush (-30), 2) := by decide +kernel
theorem dt_Ru_comparisonOf_66 : decode prog_10_method_12_code 66 = .ok (.ireturn, 1) := by decide +kernel
theorem dt_Ru_comparisonOf_67 : decode prog_10_method_12_code 67 = .ok (.iconst 0, 1) := by decide +kernel
theorem dt_Ru_comparisonOf_68 : decode prog_10_method_12_code 68 = .ok (.ireturn, 1) := by decide +kernel
theorem dt_Ru_readSum_0 : decode prog_10_method_8_code 0 = .ok (.iconst 0, 1) := by decide +kernel
theorem dt_Ru_readSum_1 : decode prog_10_method_8_code 1 = .ok (.istore_n 2, 1) := by decide +kernel
theorem dt_Ru_readSum_2 : decode prog_10_method_8_code 2 = .ok (.iconst 0, 1) := by decide +kernel
theorem dt_Ru_readSum_3 : decode prog_10_method_8_code 3 = .ok (.istore_n 3, 1) := by decide +kernel
theorem dt_Ru_readSum_4 : decode prog_10_method_8_code 4 = .ok (.iconst 1, 1) := by decide +kernel
theorem dt_Ru_readSum_5 : decode prog_10_method_8_code 5 = .ok (.istore 4, 2) := by decide +kernel
theorem dt_Ru_readSum_7 : decode prog_10_method_8_code 7 = .ok (.iconst 0, 1) := by decide +kernel
theorem dt_Ru_readSum_8 : decode prog_10_method_8_code 8 = .ok (.istore 5, 2) := by decide +kernel
theorem dt_Ru_readSum_10 : decode prog_10_method_8_code 10 = .ok (.iload 4, 2) := by decide +kernel
theorem dt_Ru_readSum_12 : decode prog_10_method_8_code 12 = .ok (.ifCond .eq 112, 3) := by decide +kernel
theorem dt_Ru_readSum_15 : decode prog_10_method_8_code 15 = .ok (.iload 5, 2) := by decide +kernel
theorem dt_Ru_readSum_17 : decode prog_10_method_8_code 17 = .ok (.bipush 60, 2) := by decide +kernel
theorem dt_Ru_readSum_19 : decode prog_10_method_8_code 19 = .ok (.if_icmp .gt 105, 3) := by decide +kernel
theorem dt_Ru_readSum_22 : decode prog_10_method_8_code 22 = .ok (.aload_n 0, 1) := by decide +kernel
theorem dt_Ru_readSum_23 : decode prog_10_method_8_code 23 = .ok (.aload_n 1, 1) := by decide +kernel
theorem dt_Ru_readSum_24 : decode prog_10_method_8_code 24 = .ok (.invokevirtual 75, 3) := by decide +kernel
theorem dt_Ru_readSum_27 : decode prog_10_method_8_code 27 = .ok (.aload_n 0, 1) := by decide +kernel
theorem dt_Ru_readSum_28 : decode prog_10_method_8_code 28 = .ok (.aload_n 1, 1) := by decide +kernel
theorem dt_Ru_readSum_29 : decode prog_10_method_8_code 29 = .ok (.getfield 30, 3) := by decide +kernel
theorem dt_Ru_readSum_32 : decode prog_10_method_8_code 32 = .ok (.iconst (-1), 1) := by decide +kernel
theorem dt_Ru_readSum_33 : decode prog_10_method_8_code 33 = .ok (.if_icmp .ne 10, 3) := by decide +kernel
theorem dt_Ru_readSum_36 : decode prog_10_method_8_code 36 = .ok (.aload_n 1, 1) := by decide +kernel
theorem dt_Ru_readSum_37 : decode prog_10_method_8_code 37 = .ok (.getfield 78, 3) := by decide +kernel
theorem dt_Ru_readSum_40 : decode prog_10_method_8_code 40 = .ok (.goto 9, 3) := by decide +kernel
theorem dt_Ru_readSum_43 : decode prog_10_method_8_code 43 = .ok (.iconst (-1), 1) := by decide +kernel
theorem dt_Ru_readSum_44 : decode prog_10_method_8_code 44 = .ok (.aload_n 1, 1) := by decide +kernel
theorem dt_Ru_readSum_45 : decode prog_10_method_8_code 45 = .ok (.getfield 30, 3) := by decide +kernel
theorem dt_Ru_readSum_48 : decode prog_10_method_8_code 48 = .ok (.isub, 1) := by decide +kernel
theorem dt_Ru_readSum_49 : decode prog_10_method_8_code 49 = .ok (.invokevirtual 50, 3) := by decide +kernel
theorem dt_Ru_readSum_52 : decode prog_10_method_8_code 52 = .ok (.aload_n 1, 1) := by decide +kernel
theorem dt_Ru_readSum_53 : decode prog_10_method_8_code 53 = .ok (.invokevirtual 37, 3) := by decide +kernel
theorem dt_Ru_readSum_56 : decode prog_10_method_8_code 56 = .ok (.iload_n 3, 1) := by decide +kernel
theorem dt_Ru_readSum_57 : decode prog_10_method_8_code 57 = .ok (.ifCond .eq 8, 3) := by decide +kernel
theorem dt_Ru_readSum_60 : decode prog_10_method_8_code 60 = .ok (.aload_n 0, 1) := by decide +kernel
theorem dt_Ru_readSum_61 : decode prog_10_method_8_code 61 = .ok (.iload_n 3, 1) := by decide +kernel
theorem dt_Ru_readSum_62 : decode prog_10_method_8_code 62 = .ok (.invokevirtual 50, 3) := by decide +kernel
theorem dt_Ru_readSum_65 : decode prog_10_method_8_code 65 = .ok (.aload_n 1, 1) := by decide +kernel
theorem dt_Ru_readSum_66 : decode prog_10_method_8_code 66 = .ok (.getfield 53, 3) := by decide +kernel
theorem dt_Ru_readSum_69 : decode prog_10_method_8_code 69 = .ok (.invokestatic 81, 3) := by decide +kernel
theorem dt_Ru_readSum_72 : decode prog_10_method_8_code 72 = .ok (.istore_n 3, 1) := by decide +kernel
theorem dt_Ru_readSum_73 : decode prog_10_method_8_code 73 = .ok (.iload_n 3, 1) := by decide +kernel
theorem dt_Ru_readSum_74 : decode prog_10_method_8_code 74 = .ok (.ifCond .ne 20, 3) := by decide +kernel
theorem dt_Ru_readSum_77 : decode prog_10_method_8_code 77 = .ok (.iload_n 2, 1) := by decide +kernel
theorem dt_Ru_readSum_78 : decode prog_10_method_8_code 78 = .ok (.ifCond .eq 8, 3) := by decide +kernel
theorem dt_Ru_readSum_81 : decode prog_10_method_8_code 81 = .ok (.aload_n 0, 1) := by decide +kernel
theorem dt_Ru_readSum_82 : decode prog_10_method_8_code 82 = .ok (.iload_n 2, 1) := by decide +kernel
theorem dt_Ru_readSum_83 : decode prog_10_method_8_code 83 = .ok (.invokevirtual 50, 3) := by decide +kernel
theorem dt_Ru_readSum_86 : decode prog_10_method_8_code 86 = .ok (.aload_n 1, 1) := by decide +kernel
theorem dt_Ru_readSum_87 : decode prog_10_method_8_code 87 = .ok (.getfield 53, 3) := by decide +kernel
theorem dt_Ru_readSum_90 : decode prog_10_method_8_code 90 = .ok (.invokestatic 84, 3) := by decide +kernel
theorem dt_Ru_readSum_93 : decode prog_10_method_8_code 93 = .ok (.istore_n 2, 1) := by decide +kernel
theorem dt_Ru_readSum_94 : decode prog_10_method_8_code 94 = .ok (.iload_n 3, 1) := by decide +kernel
theorem dt_Ru_readSum_95 : decode prog_10_method_8_code 95 = .ok (.ifCond .ne 7, 3) := by decide +kernel
theorem dt_Ru_readSum_98 : decode prog_10_method_8_code 98 = .ok (.iload_n 2, 1) := by decide +kernel
theorem dt_Ru_readSum_99 : decode prog_10_method_8_code 99 = .ok (.ifCond .eq 7, 3) := by decide +kernel
theorem dt_Ru_readSum_102 : decode prog_10_method_8_code 102 = .ok (.iconst 1, 1) := by decide +kernel
theorem dt_Ru_readSum_103 : decode prog_10_method_8_code 103 = .ok (.goto 4, 3) := by decide +kernel
theorem dt_Ru_readSum_106 : decode prog_10_method_8_code 106 = .ok (.iconst 0, 1) := by decide +kernel
theorem dt_Ru_readSum_107 : decode prog_10_method_8_code 107 = .ok (.istore 4, 2) := by decide +kernel
theorem dt_Ru_readSum_109 : decode prog_10_method_8_code 109 = .ok (.iload 4, 2) := by decide +kernel
theorem dt_Ru_readSum_111 : decode prog_10_method_8_code 111 = .ok (.ifCond .eq 7, 3) := by decide +kernel
theorem dt_Ru_readSum_114 : decode prog_10_method_8_code 114 = .ok (.aload_n 1, 1) := by decide +kernel
theorem dt_Ru_readSum_115 : decode prog_10_method_8_code 115 = .ok (.invokevirtual 37, 3) := by decide +kernel
theorem dt_Ru_readSum_118 : decode prog_10_method_8_code 118 = .ok (.iinc 5 1, 3) := by decide +kernel
theorem dt_Ru_readSum_121 : decode prog_10_method_8_code 121 = .ok (.goto (-111), 3) := by decide +kernel
theorem dt_Ru_readSum_124 : decode prog_10_method_8_code 124 = .ok (.return_, 1) := by decide +kernel