theorem de_Ri_houseFacing_0 : decode prog_7_method_10_code 0 = .ok (.iconst 0, 1) := by decide +kernel
theorem de_Ri_houseFacing_1 : decode prog_7_method_10_code 1 = .ok (.istore_n 2, 1) := by decide +kernel
theorem de_Ri_houseFacing_2 : decode prog_7_method_10_code 2 = .ok (.iload_n 2, 1) := by decide +kernel
theorem de_Ri_houseFacing_3 : decode prog_7_method_10_code 3 = .ok (.aload_n 0, 1) := by decide +kernel
theorem de_Ri_houseFacing_4 : decode prog_7_method_10_code 4 = .ok (.getfield 64, 3) := by decide +kernel
theorem de_Ri_houseFacing_7 : decode prog_7_method_10_code 7 = .ok (.if_icmp .ge 20, 3) := by decide +kernel
theorem de_Ri_houseFacing_10 : decode prog_7_method_10_code 10 = .ok (.aload_n 0, 1) := by decide +kernel
theorem de_Ri_houseFacing_11 : decode prog_7_method_10_code 11 = .ok (.iload_n 2, 1) := by decide +kernel
theorem de_Ri_houseFacing_12 : decode prog_7_method_10_code 12 = .ok (.invokevirtual 99, 3) := by decide +kernel
theorem de_Ri_houseFacing_15 : decode prog_7_method_10_code 15 = .ok (.iload_n 1, 1) := by decide +kernel
theorem de_Ri_houseFacing_16 : decode prog_7_method_10_code 16 = .ok (.if_icmp .ne 5, 3) := by decide +kernel
theorem de_Ri_houseFacing_19 : decode prog_7_method_10_code 19 = .ok (.iload_n 2, 1) := by decide +kernel
theorem de_Ri_houseFacing_20 : decode prog_7_method_10_code 20 = .ok (.ireturn, 1) := by decide +kernel
theorem de_Ri_houseFacing_21 : decode prog_7_method_10_code 21 = .ok (.iinc 2 1, 3) := by decide +kernel
theorem de_Ri_houseFacing_24 : decode prog_7_method_10_code 24 = .ok (.goto (-22), 3) := by decide +kernel
theorem de_Ri_houseFacing_27 : decode prog_7_method_10_code 27 = .ok (.iconst (-1), 1) := by decide +kernel
theorem de_Ri_houseFacing_28 : decode prog_7_method_10_code 28 = .ok (.ireturn, 1) := by decide +kernel
theorem de_Ri_bestLike_0 : decode prog_7_method_15_code 0 = .ok (.aload_n 0, 1) := by decide +kernel
theorem de_Ri_bestLike_1 : decode prog_7_method_15_code 1 = .ok (.getfield 64, 3) := by decide +kernel
theorem de_Ri_bestLike_4 : decode prog_7_method_15_code 4 = .ok (.ifCond .ne 7, 3) := by decide +kernel
theorem de_Ri_bestLike_7 : decode prog_7_method_15_code 7 = .ok (.iconst 0, 1) := by decide +kernel
theorem de_Ri_bestLike_8 : decode prog_7_method_15_code 8 = .ok (.goto 8, 3) := by decide +kernel
theorem de_Ri_bestLike_11 : decode prog_7_method_15_code 11 = .ok (.aload_n 0, 1) := by decide +kernel
theorem de_Ri_bestLike_12 : decode prog_7_method_15_code 12 = .ok (.iconst 0, 1) := by decide +kernel
theorem de_Ri_bestLike_13 : decode prog_7_method_15_code 13 = .ok (.invokevirtual 110, 3) := by decide +kernel
theorem de_Ri_bestLike_16 : decode prog_7_method_15_code 16 = .ok (.istore_n 1, 1) := by decide +kernel
theorem de_Ri_bestLike_17 : decode prog_7_method_15_code 17 = .ok (.iconst 1, 1) := by decide +kernel
theorem de_Ri_bestLike_18 : decode prog_7_method_15_code 18 = .ok (.istore_n 2, 1) := by decide +kernel
theorem de_Ri_bestLike_19 : decode prog_7_method_15_code 19 = .ok (.iload_n 2, 1) := by decide +kernel
theorem de_Ri_bestLike_20 : decode prog_7_method_15_code 20 = .ok (.aload_n 0, 1) := by decide +kernel
theorem de_Ri_bestLike_21 : decode prog_7_method_15_code 21 = .ok (.getfield 64, 3) := by decide +kernel
theorem de_Ri_bestLike_24 : decode prog_7_method_15_code 24 = .ok (.if_icmp .ge 19, 3) := by decide +kernel
theorem de_Ri_bestLike_27 : decode prog_7_method_15_code 27 = .ok (.iload_n 1, 1) := by decide +kernel
theorem de_Ri_bestLike_28 : decode prog_7_method_15_code 28 = .ok (.aload_n 0, 1) := by decide +kernel
theorem de_Ri_bestLike_29 : decode prog_7_method_15_code 29 = .ok (.iload_n 2, 1) := by decide +kernel
theorem de_Ri_bestLike_30 : decode prog_7_method_15_code 30 = .ok (.invokevirtual 110, 3) := by decide +kernel
theorem de_Ri_bestLike_33 : decode prog_7_method_15_code 33 = .ok (.invokestatic 113, 3) := by decide +kernel
theorem de_Ri_bestLike_36 : decode prog_7_method_15_code 36 = .ok (.istore_n 1, 1) := by decide +kernel
theorem de_Ri_bestLike_37 : decode prog_7_method_15_code 37 = .ok (.iinc 2 1, 3) := by decide +kernel
theorem de_Ri_bestLike_40 : decode prog_7_method_15_code 40 = .ok (.goto (-21), 3) := by decide +kernel
theorem de_Ri_bestLike_43 : decode prog_7_method_15_code 43 = .ok (.iload_n 1, 1) := by decide +kernel
theorem de_Ri_bestLike_44 : decode prog_7_method_15_code 44 = .ok (.ireturn, 1) := by decide +kernel
theorem de_Ri_leastLike_0 : decode prog_7_method_16_code 0 = .ok (.aload_n 0, 1) := by decide +kernel
theorem de_Ri_leastLike_1 : decode prog_7_method_16_code 1 = .ok (.getfield 64, 3) := by decide +kernel
theorem de_Ri_leastLike_4 : decode prog_7_method_16_code 4 = .ok (.ifCond .ne 7, 3) := by decide +kernel
theorem de_Ri_leastLike_7 : decode prog_7_method_16_code 7 = .ok (.iconst 0, 1) := by decide +kernel
theorem de_Ri_leastLike_8 : decode prog_7_method_16_code 8 = .ok (.goto 8, 3) := by decide +kernel
theorem de_Ri_leastLike_11 : decode prog_7_method_16_code 11 = .ok (.aload_n 0, 1) := by decide +kernel
theorem de_Ri_leastLike_12 : decode prog_7_method_16_code 12 = .ok (.iconst 0, 1) := by decide +kernel
theorem de_Ri_leastLike_13 : decode prog_7_method_16_code 13 = .ok (.invokevirtual 110, 3) := by decide +kernel
theorem de_Ri_leastLike_16 : decode prog_7_method_16_code 16 = .ok (.istore_n 1, 1) := by decide +kernel
theorem de_Ri_leastLike_17 : decode prog_7_method_16_code 17 = .ok (.iconst 1, 1) := by decide +kernel
theorem de_Ri_leastLike_18 : decode prog_7_method_16_code 18 = .ok (.istore_n 2, 1) := by decide +kernel
theorem de_Ri_leastLike_19 : decode prog_7_method_16_code 19 = .ok (.iload_n 2, 1) := by decide +kernel
theorem de_Ri_leastLike_20 : decode prog_7_method_16_code 20 = .ok (.aload_n 0, 1) := by decide +kernel
theorem de_Ri_leastLike_21 : decode prog_7_method_16_code 21 = .ok (.getfield 64, 3) := by decide +kernel
theorem de_Ri_leastLike_24 : decode prog_7_method_16_code 24 = .ok (.if_icmp .ge 19, 3) := by decide +kernel
theorem de_Ri_leastLike_27 : decode prog_7_method_16_code 27 = .ok (.iload_n 1, 1) := by decide +kernel
theorem de_Ri_leastLike_28 : decode prog_7_method_16_code 28 = .ok (.aload_n 0, 1) := by decide +kernel
theorem de_Ri_leastLike_29 : decode prog_7_method_16_code 29 = .ok (.iload_n 2, 1) := by decide +kernel
theorem de_Ri_leastLike_30 : decode prog_7_method_16_code 30 = .ok (.invokevirtual 110, 3) := by decide +kernel
theorem de_Ri_leastLike_33 : decode prog_7_method_16_code 33 = .ok (.invokestatic 118, 3) := by decide +kernel
theorem de_Ri_leastLike_36 : decode prog_7_method_16_code 36 = .ok (.istore_n 1, 1) := by decide +kernel
theorem de_Ri_leastLike_37 : decode prog_7_method_16_code 37 = .ok (.iinc 2 1, 3) := by decide +kernel
theorem de_Ri_leastLike_40 : decode prog_7_method_16_code 40 = .ok (.goto (-21), 3) := by decide +kernel
theorem de_Ri_leastLike_43 : decode prog_7_method_16_code 43 = .ok (.iload_n 1, 1) := by decide +kernel
theorem de_Ri_leastLike_44 : decode prog_7_method_16_code 44 = .ok (.ireturn, 1) := by decide +kernel