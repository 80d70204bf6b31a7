theorem dt_Rr_mayFollow_0 : decode prog_8_method_3_code 0 = .ok (.iload_n 1, 1) := by decide +kernel
theorem dt_Rr_mayFollow_1 : decode prog_8_method_3_code 1 = .ok (.iconst 1, 1) := by decide +kernel
theorem dt_Rr_mayFollow_2 : decode prog_8_method_3_code 2 = .ok (.if_icmp .ne 12, 3) := by decide +kernel
theorem dt_Rr_mayFollow_5 : decode prog_8_method_3_code 5 = .ok (.aload_n 0, 1) := by decide +kernel
theorem dt_Rr_mayFollow_6 : decode prog_8_method_3_code 6 = .ok (.getfield 53, 3) := by decide +kernel
theorem dt_Rr_mayFollow_9 : decode prog_8_method_3_code 9 = .ok (.bipush 7, 2) := by decide +kernel
theorem dt_Rr_mayFollow_11 : decode prog_8_method_3_code 11 = .ok (.if_icmp .eq 17, 3) := by decide +kernel
theorem dt_Rr_mayFollow_14 : decode prog_8_method_3_code 14 = .ok (.iload_n 1, 1) := by decide +kernel
theorem dt_Rr_mayFollow_15 : decode prog_8_method_3_code 15 = .ok (.iconst 2, 1) := by decide +kernel
theorem dt_Rr_mayFollow_16 : decode prog_8_method_3_code 16 = .ok (.if_icmp .ne 14, 3) := by decide +kernel
theorem dt_Rr_mayFollow_19 : decode prog_8_method_3_code 19 = .ok (.aload_n 0, 1) := by decide +kernel
theorem dt_Rr_mayFollow_20 : decode prog_8_method_3_code 20 = .ok (.getfield 56, 3) := by decide +kernel
theorem dt_Rr_mayFollow_23 : decode prog_8_method_3_code 23 = .ok (.bipush 12, 2) := by decide +kernel
theorem dt_Rr_mayFollow_25 : decode prog_8_method_3_code 25 = .ok (.if_icmp .ne 5, 3) := by decide +kernel
theorem dt_Rr_mayFollow_28 : decode prog_8_method_3_code 28 = .ok (.iconst 0, 1) := by decide +kernel
theorem dt_Rr_mayFollow_29 : decode prog_8_method_3_code 29 = .ok (.ireturn, 1) := by decide +kernel
theorem dt_Rr_mayFollow_30 : decode prog_8_method_3_code 30 = .ok (.iload_n 1, 1) := by decide +kernel
theorem dt_Rr_mayFollow_31 : decode prog_8_method_3_code 31 = .ok (.ifCond .ne 7, 3) := by decide +kernel
theorem dt_Rr_mayFollow_34 : decode prog_8_method_3_code 34 = .ok (.iconst 1, 1) := by decide +kernel
theorem dt_Rr_mayFollow_35 : decode prog_8_method_3_code 35 = .ok (.goto 4, 3) := by decide +kernel
theorem dt_Rr_mayFollow_38 : decode prog_8_method_3_code 38 = .ok (.iconst 0, 1) := by decide +kernel
theorem dt_Rr_mayFollow_39 : decode prog_8_method_3_code 39 = .ok (.iload_n 2, 1) := by decide +kernel
theorem dt_Rr_mayFollow_40 : decode prog_8_method_3_code 40 = .ok (.ifCond .ne 7, 3) := by decide +kernel
theorem dt_Rr_mayFollow_43 : decode prog_8_method_3_code 43 = .ok (.iconst 1, 1) := by decide +kernel
theorem dt_Rr_mayFollow_44 : decode prog_8_method_3_code 44 = .ok (.goto 4, 3) := by decide +kernel
theorem dt_Rr_mayFollow_47 : decode prog_8_method_3_code 47 = .ok (.iconst 0, 1) := by decide +kernel
theorem dt_Rr_mayFollow_48 : decode prog_8_method_3_code 48 = .ok (.if_icmp .ne 7, 3) := by decide +kernel
theorem dt_Rr_mayFollow_51 : decode prog_8_method_3_code 51 = .ok (.iconst 1, 1) := by decide +kernel
theorem dt_Rr_mayFollow_52 : decode prog_8_method_3_code 52 = .ok (.goto 4, 3) := by decide +kernel
theorem dt_Rr_mayFollow_55 : decode prog_8_method_3_code 55 = .ok (.iconst 0, 1) := by decide +kernel
theorem dt_Rr_mayFollow_56 : decode prog_8_method_3_code 56 = .ok (.ireturn, 1) := by decide +kernel
theorem dt_Rr_readHouse_0 : decode prog_8_method_5_code 0 = .ok (.aload_n 0, 1) := by decide +kernel
theorem dt_Rr_readHouse_1 : decode prog_8_method_5_code 1 = .ok (.getfield 43, 3) := by decide +kernel
theorem dt_Rr_readHouse_4 : decode prog_8_method_5_code 4 = .ok (.bipush (-2), 2) := by decide +kernel
theorem dt_Rr_readHouse_6 : decode prog_8_method_5_code 6 = .ok (.if_icmp .ne 19, 3) := by decide +kernel
theorem dt_Rr_readHouse_9 : decode prog_8_method_5_code 9 = .ok (.aload_n 1, 1) := by decide +kernel
theorem dt_Rr_readHouse_10 : decode prog_8_method_5_code 10 = .ok (.aload_n 0, 1) := by decide +kernel
theorem dt_Rr_readHouse_11 : decode prog_8_method_5_code 11 = .ok (.getfield 87, 3) := by decide +kernel
theorem dt_Rr_readHouse_14 : decode prog_8_method_5_code 14 = .ok (.invokevirtual 90, 3) := by decide +kernel
theorem dt_Rr_readHouse_17 : decode prog_8_method_5_code 17 = .ok (.ifCond .eq 8, 3) := by decide +kernel
theorem dt_Rr_readHouse_20 : decode prog_8_method_5_code 20 = .ok (.aload_n 0, 1) := by decide +kernel
theorem dt_Rr_readHouse_21 : decode prog_8_method_5_code 21 = .ok (.iconst 1, 1) := by decide +kernel
theorem dt_Rr_readHouse_22 : decode prog_8_method_5_code 22 = .ok (.invokevirtual 28, 3) := by decide +kernel
theorem dt_Rr_readHouse_25 : decode prog_8_method_5_code 25 = .ok (.aload_n 0, 1) := by decide +kernel
theorem dt_Rr_readHouse_26 : decode prog_8_method_5_code 26 = .ok (.iconst 0, 1) := by decide +kernel
theorem dt_Rr_readHouse_27 : decode prog_8_method_5_code 27 = .ok (.bipush 11, 2) := by decide +kernel
theorem dt_Rr_readHouse_29 : decode prog_8_method_5_code 29 = .ok (.invokevirtual 59, 3) := by decide +kernel
theorem dt_Rr_readHouse_32 : decode prog_8_method_5_code 32 = .ok (.istore_n 2, 1) := by decide +kernel
theorem dt_Rr_readHouse_33 : decode prog_8_method_5_code 33 = .ok (.aload_n 0, 1) := by decide +kernel
theorem dt_Rr_readHouse_34 : decode prog_8_method_5_code 34 = .ok (.iconst 1, 1) := by decide +kernel
theorem dt_Rr_readHouse_35 : decode prog_8_method_5_code 35 = .ok (.bipush 9, 2) := by decide +kernel
theorem dt_Rr_readHouse_37 : decode prog_8_method_5_code 37 = .ok (.invokevirtual 59, 3) := by decide +kernel
theorem dt_Rr_readHouse_40 : decode prog_8_method_5_code 40 = .ok (.istore_n 3, 1) := by decide +kernel
theorem dt_Rr_readHouse_41 : decode prog_8_method_5_code 41 = .ok (.aload_n 0, 1) := by decide +kernel
theorem dt_Rr_readHouse_42 : decode prog_8_method_5_code 42 = .ok (.getfield 46, 3) := by decide +kernel
theorem dt_Rr_readHouse_45 : decode prog_8_method_5_code 45 = .ok (.ifCond .ne 9, 3) := by decide +kernel
theorem dt_Rr_readHouse_48 : decode prog_8_method_5_code 48 = .ok (.aload_n 1, 1) := by decide +kernel
theorem dt_Rr_readHouse_49 : decode prog_8_method_5_code 49 = .ok (.iload_n 2, 1) := by decide +kernel
theorem dt_Rr_readHouse_50 : decode prog_8_method_5_code 50 = .ok (.iload_n 3, 1) := by decide +kernel
theorem dt_Rr_readHouse_51 : decode prog_8_method_5_code 51 = .ok (.invokevirtual 94, 3) := by decide +kernel
theorem dt_Rr_readHouse_54 : decode prog_8_method_5_code 54 = .ok (.return_, 1) := by decide +kernel
theorem dt_Rr_readSight_0 : decode prog_8_method_6_code 0 = .ok (.aload_n 0, 1) := by decide +kernel
theorem dt_Rr_readSight_1 : decode prog_8_method_6_code 1 = .ok (.iconst 0, 1) := by decide +kernel
theorem dt_Rr_readSight_2 : decode prog_8_method_6_code 2 = .ok (.iconst 4, 1) := by decide +kernel
theorem dt_Rr_readSight_3 : decode prog_8_method_6_code 3 = .ok (.invokevirtual 59, 3) := by decide +kernel
theorem dt_Rr_readSight_6 : decode prog_8_method_6_code 6 = .ok (.istore_n 2, 1) := by decide +kernel
theorem dt_Rr_readSight_7 : decode prog_8_method_6_code 7 = .ok (.aload_n 0, 1) := by decide +kernel
theorem dt_Rr_readSight_8 : decode prog_8_method_6_code 8 = .ok (.iconst 0, 1) := by decide +kernel
theorem dt_Rr_readSight_9 : decode prog_8_method_6_code 9 = .ok (.bipush 11, 2) := by decide +kernel
theorem dt_Rr_readSight_11 : decode prog_8_method_6_code 11 = .ok (.invokevirtual 59, 3) := by decide +kernel
theorem dt_Rr_readSight_14 : decode prog_8_method_6_code 14 = .ok (.istore_n 3, 1) := by decide +kernel
theorem dt_Rr_readSight_15 : decode prog_8_method_6_code 15 = .ok (.aload_n 0, 1) := by decide +kernel
theorem dt_Rr_readSight_16 : decode prog_8_method_6_code 16 = .ok (.iconst 0, 1) := by decide +kernel
theorem dt_Rr_readSight_17 : decode prog_8_method_6_code 17 = .ok (.bipush 23, 2) := by decide +kernel
theorem dt_Rr_readSight_19 : decode prog_8_method_6_code 19 = .ok (.invokevirtual 59, 3) := by decide +kernel
theorem dt_Rr_readSight_22 : decode prog_8_method_6_code 22 = .ok (.istore 4, 2) := by decide +kernel
theorem dt_Rr_readSight_24 : decode prog_8_method_6_code 24 = .ok (.aload_n 0, 1) := by decide +kernel
theorem dt_Rr_readSight_25 : decode prog_8_method_6_code 25 = .ok (.iload 4, 2) := by decide +kernel
theorem dt_Rr_readSight_27 : decode prog_8_method_6_code 27 = .ok (.bipush 23, 2) := by decide +kernel
theorem dt_Rr_readSight_29 : decode prog_8_method_6_code 29 = .ok (.invokevirtual 59, 3) := by decide +kernel
theorem dt_Rr_readSight_32 : decode prog_8_method_6_code 32 = .ok (.istore 5, 2) := by decide +kernel
theorem dt_Rr_readSight_34 : decode prog_8_method_6_code 34 = .ok (.aload_n 0, 1) := by decide +kernel
theorem dt_Rr_readSight_35 : decode prog_8_method_6_code 35 = .ok (.getfield 46, 3) := by decide +kernel
theorem dt_Rr_readSight_38 : decode prog_8_method_6_code 38 = .ok (.ifCond .ne 13, 3) := by decide +kernel
theorem dt_Rr_readSight_41 : decode prog_8_method_6_code 41 = .ok (.aload_n 1, 1) := by decide +kernel
theorem dt_Rr_readSight_42 : decode prog_8_method_6_code 42 = .ok (.iload_n 2, 1) := by decide +kernel
theorem dt_Rr_readSight_43 : decode prog_8_method_6_code 43 = .ok (.iload_n 3, 1) := by decide +kernel
theorem dt_Rr_readSight_44 : decode prog_8_method_6_code 44 = .ok (.iload 4, 2) := by decide +kernel
theorem dt_Rr_readSight_46 : decode prog_8_method_6_code 46 = .ok (.iload 5, 2) := by decide +kernel
theorem dt_Rr_readSight_48 : decode prog_8_method_6_code 48 = .ok (.invokevirtual 98, 3) := by decide +kernel
theorem dt_Rr_readSight_51 : decode prog_8_method_6_code 51 = .ok (.return_, 1) := by decide +kernel
theorem dt_Rr_readLiking_0 : decode prog_8_method_7_code 0 = .ok (.aload_n 0, 1) := by decide +kernel
theorem dt_Rr_readLiking_1 : decode prog_8_method_7_code 1 = .ok (.iconst 0, 1) := by decide +kernel
theorem dt_Rr_readLiking_2 : decode prog_8_method_7_code 2 = .ok (.aload_n 1, 1) := by decide +kernel
theorem dt_Rr_readLiking_3 : decode prog_8_method_7_code 3 = .ok (.getfield 53, 3) := by decide +kernel
theorem dt_Rr_readLiking_6 : decode prog_8_method_7_code 6 = .ok (.iconst 1, 1) := by decide +kernel
theorem dt_Rr_readLiking_7 : decode prog_8_method_7_code 7 = .ok (.isub, 1) := by decide +kernel
theorem dt_Rr_readLiking_8 : decode prog_8_method_7_code 8 = .ok (.invokevirtual 59, 3) := by decide +kernel
theorem dt_Rr_readLiking_11 : decode prog_8_method_7_code 11 = .ok (.istore_n 3, 1) := by decide +kernel
theorem dt_Rr_readLiking_12 : decode prog_8_method_7_code 12 = .ok (.aload_n 0, 1) := by decide +kernel
theorem dt_Rr_readLiking_13 : decode prog_8_method_7_code 13 = .ok (.iconst 0, 1) := by decide +kernel
theorem dt_Rr_readLiking_14 : decode prog_8_method_7_code 14 = .ok (.iconst 4, 1) := by decide +kernel
theorem dt_Rr_readLiking_15 : decode prog_8_method_7_code 15 = .ok (.invokevirtual 59, 3) := by decide +kernel
theorem dt_Rr_readLiking_18 : decode prog_8_method_7_code 18 = .ok (.istore 4, 2) := by decide +kernel
theorem dt_Rr_readLiking_20 : decode prog_8_method_7_code 20 = .ok (.aload_n 0, 1) := by decide +kernel
theorem dt_Rr_readLiking_21 : decode prog_8_method_7_code 21 = .ok (.iconst 1, 1) := by decide +kernel
theorem dt_Rr_readLiking_22 : decode prog_8_method_7_code 22 = .ok (.bipush 9, 2) := by decide +kernel
theorem dt_Rr_readLiking_24 : decode prog_8_method_7_code 24 = .ok (.invokevirtual 59, 3) := by decide +kernel
theorem dt_Rr_readLiking_27 : decode prog_8_method_7_code 27 = .ok (.istore 5, 2) := by decide +kernel
theorem dt_Rr_readLiking_29 : decode prog_8_method_7_code 29 = .ok (.aload_n 0, 1) := by decide +kernel
theorem dt_Rr_readLiking_30 : decode prog_8_method_7_code 30 = .ok (.getfield 46, 3) := by decide +kernel
theorem dt_Rr_readLiking_33 : decode prog_8_method_7_code 33 = .ok (.ifCond .ne 18, 3) := by decide +kernel
theorem dt_Rr_readLiking_36 : decode prog_8_method_7_code 36 = .ok (.aload_n 1, 1) := by decide +kernel
theorem dt_Rr_readLiking_37 : decode prog_8_method_7_code 37 = .ok (.getfield 102, 3) := by decide +kernel
theorem dt_Rr_readLiking_40 : decode prog_8_method_7_code 40 = .ok (.iload_n 3, 1) := by decide +kernel
theorem dt_Rr_readLiking_41 : decode prog_8_method_7_code 41 = .ok (.iconst 5, 1) := by decide +kernel
theorem dt_Rr_readLiking_42 : decode prog_8_method_7_code 42 = .ok (.imul, 1) := by decide +kernel
theorem dt_Rr_readLiking_43 : decode prog_8_method_7_code 43 = .ok (.iload 4, 2) := by decide +kernel
theorem dt_Rr_readLiking_45 : decode prog_8_method_7_code 45 = .ok (.iadd, 1) := by decide +kernel
theorem dt_Rr_readLiking_46 : decode prog_8_method_7_code 46 = .ok (.iload_n 2, 1) := by decide +kernel
theorem dt_Rr_readLiking_47 : decode prog_8_method_7_code 47 = .ok (.iload 5, 2) := by decide +kernel
theorem dt_Rr_readLiking_49 : decode prog_8_method_7_code 49 = .ok (.imul, 1) := by decide +kernel
theorem dt_Rr_readLiking_50 : decode prog_8_method_7_code 50 = .ok (.iastore, 1) := by decide +kernel
theorem dt_Rr_readLiking_51 : decode prog_8_method_7_code 51 = .ok (.return_, 1) := by decide +kernel
theorem dt_Rr_readGate_0 : decode prog_8_method_8_code 0 = .ok (.aload_n 0, 1) := by decide +kernel
theorem dt_Rr_readGate_1 : decode prog_8_method_8_code 1 = .ok (.iconst 0, 1) := by decide +kernel
theorem dt_Rr_readGate_2 : decode prog_8_method_8_code 2 = .ok (.bipush 11, 2) := by decide +kernel
theorem dt_Rr_readGate_4 : decode prog_8_method_8_code 4 = .ok (.invokevirtual 59, 3) := by decide +kernel
theorem dt_Rr_readGate_7 : decode prog_8_method_8_code 7 = .ok (.istore_n 2, 1) := by decide +kernel
theorem dt_Rr_readGate_8 : decode prog_8_method_8_code 8 = .ok (.aload_n 0, 1) := by decide +kernel
theorem dt_Rr_readGate_9 : decode prog_8_method_8_code 9 = .ok (.getfield 46, 3) := by decide +kernel
theorem dt_Rr_readGate_12 : decode prog_8_method_8_code 12 = .ok (.ifCond .ne 15, 3) := by decide +kernel
theorem dt_Rr_readGate_15 : decode prog_8_method_8_code 15 = .ok (.aload_n 1, 1) := by decide +kernel
theorem dt_Rr_readGate_16 : decode prog_8_method_8_code 16 = .ok (.dup, 1) := by decide +kernel
theorem dt_Rr_readGate_17 : decode prog_8_method_8_code 17 = .ok (.getfield 106, 3) := by decide +kernel
theorem dt_Rr_readGate_20 : decode prog_8_method_8_code 20 = .ok (.iconst 1, 1) := by decide +kernel
theorem dt_Rr_readGate_21 : decode prog_8_method_8_code 21 = .ok (.iload_n 2, 1) := by decide +kernel
theorem dt_Rr_readGate_22 : decode prog_8_method_8_code 22 = .ok (.ishl, 1) := by decide +kernel
theorem dt_Rr_readGate_23 : decode prog_8_method_8_code 23 = .ok (.ior, 1) := by decide +kernel
theorem dt_Rr_readGate_24 : decode prog_8_method_8_code 24 = .ok (.putfield 106, 3) := by decide +kernel
theorem dt_Rr_readGate_27 : decode prog_8_method_8_code 27 = .ok (.return_, 1) := by decide +kernel
theorem dt_Rr_readRate_0 : decode prog_8_method_9_code 0 = .ok (.aload_n 0, 1) := by decide +kernel
theorem dt_Rr_readRate_1 : decode prog_8_method_9_code 1 = .ok (.iconst 0, 1) := by decide +kernel
theorem dt_Rr_readRate_2 : decode prog_8_method_9_code 2 = .ok (.bipush 23, 2) := by decide +kernel
theorem dt_Rr_readRate_4 : decode prog_8_method_9_code 4 = .ok (.invokevirtual 59, 3) := by decide +kernel
theorem dt_Rr_readRate_7 : decode prog_8_method_9_code 7 = .ok (.istore_n 2, 1) := by decide +kernel
theorem dt_Rr_readRate_8 : decode prog_8_method_9_code 8 = .ok (.aload_n 0, 1) := by decide +kernel
theorem dt_Rr_readRate_9 : decode prog_8_method_9_code 9 = .ok (.iload_n 2, 1) := by decide +kernel
theorem dt_Rr_readRate_10 : decode prog_8_method_9_code 10 = .ok (.bipush 23, 2) := by decide +kernel
theorem dt_Rr_readRate_12 : decode prog_8_method_9_code 12 = .ok (.invokevirtual 59, 3) := by decide +kernel
theorem dt_Rr_readRate_15 : decode prog_8_method_9_code 15 = .ok (.istore_n 3, 1) := by decide +kernel
theorem dt_Rr_readRate_16 : decode prog_8_method_9_code 16 = .ok (.aload_n 0, 1) := by decide +kernel
theorem dt_Rr_readRate_17 : decode prog_8_method_9_code 17 = .ok (.iconst 0, 1) := by decide +kernel
theorem dt_Rr_readRate_18 : decode prog_8_method_9_code 18 = .ok (.bipush 6, 2) := by decide +kernel
theorem dt_Rr_readRate_20 : decode prog_8_method_9_code 20 = .ok (.invokevirtual 59, 3) := by decide +kernel
theorem dt_Rr_readRate_23 : decode prog_8_method_9_code 23 = .ok (.istore 4, 2) := by decide +kernel
theorem dt_Rr_readRate_25 : decode prog_8_method_9_code 25 = .ok (.aload_n 0, 1) := by decide +kernel
theorem dt_Rr_readRate_26 : decode prog_8_method_9_code 26 = .ok (.getfield 46, 3) := by decide +kernel
theorem dt_Rr_readRate_29 : decode prog_8_method_9_code 29 = .ok (.ifCond .ne 13, 3) := by decide +kernel
theorem dt_Rr_readRate_32 : decode prog_8_method_9_code 32 = .ok (.aload_n 1, 1) := by decide +kernel
theorem dt_Rr_readRate_33 : decode prog_8_method_9_code 33 = .ok (.iload_n 2, 1) := by decide +kernel
theorem dt_Rr_readRate_34 : decode prog_8_method_9_code 34 = .ok (.iload_n 3, 1) := by decide +kernel
theorem dt_Rr_readRate_35 : decode prog_8_method_9_code 35 = .ok (.iload 4, 2) := by decide +kernel
theorem dt_Rr_readRate_37 : decode prog_8_method_9_code 37 = .ok (.iconst 3, 1) := by decide +kernel
theorem dt_Rr_readRate_38 : decode prog_8_method_9_code 38 = .ok (.isub, 1) := by decide +kernel
theorem dt_Rr_readRate_39 : decode prog_8_method_9_code 39 = .ok (.invokevirtual 109, 3) := by decide +kernel
theorem dt_Rr_readRate_42 : decode prog_8_method_9_code 42 = .ok (.return_, 1) := by decide +kernel
theorem dt_Rr_readRest_0 : decode prog_8_method_4_code 0 = .ok (.iload_n 2, 1) := by decide +kernel
theorem dt_Rr_readRest_1 : decode prog_8_method_4_code 1 = .ok (.tableswitch 99 0 5 #[39, 57, 65, 73, 82, 91], 39) := by decide +kernel
theorem dt_Rr_readRest_40 : decode prog_8_method_4_code 40 = .ok (.aload_n 1, 1) := by decide +kernel
theorem dt_Rr_readRest_41 : decode prog_8_method_4_code 41 = .ok (.iconst 0, 1) := by decide +kernel
theorem dt_Rr_readRest_42 : decode prog_8_method_4_code 42 = .ok (.aload_n 0, 1) := by decide +kernel
theorem dt_Rr_readRest_43 : decode prog_8_method_4_code 43 = .ok (.iconst 0, 1) := by decide +kernel
theorem dt_Rr_readRest_44 : decode prog_8_method_4_code 44 = .ok (.bipush 11, 2) := by decide +kernel
theorem dt_Rr_readRest_46 : decode prog_8_method_4_code 46 = .ok (.invokevirtual 59, 3) := by decide +kernel
theorem dt_Rr_readRest_49 : decode prog_8_method_4_code 49 = .ok (.invokestatic 63, 3) := by decide +kernel
theorem dt_Rr_readRest_52 : decode prog_8_method_4_code 52 = .ok (.putfield 68, 3) := by decide +kernel
theorem dt_Rr_readRest_55 : decode prog_8_method_4_code 55 = .ok (.goto 50, 3) := by decide +kernel
theorem dt_Rr_readRest_58 : decode prog_8_method_4_code 58 = .ok (.aload_n 0, 1) := by decide +kernel
theorem dt_Rr_readRest_59 : decode prog_8_method_4_code 59 = .ok (.aload_n 1, 1) := by decide +kernel
theorem dt_Rr_readRest_60 : decode prog_8_method_4_code 60 = .ok (.invokestatic 71, 3) := by decide +kernel
theorem dt_Rr_readRest_63 : decode prog_8_method_4_code 63 = .ok (.goto 42, 3) := by decide +kernel
theorem dt_Rr_readRest_66 : decode prog_8_method_4_code 66 = .ok (.aload_n 0, 1) := by decide +kernel
theorem dt_Rr_readRest_67 : decode prog_8_method_4_code 67 = .ok (.aload_n 1, 1) := by decide +kernel
theorem dt_Rr_readRest_68 : decode prog_8_method_4_code 68 = .ok (.invokestatic 75, 3) := by decide +kernel
theorem dt_Rr_readRest_71 : decode prog_8_method_4_code 71 = .ok (.goto 34, 3) := by decide +kernel
theorem dt_Rr_readRest_74 : decode prog_8_method_4_code 74 = .ok (.aload_n 0, 1) := by decide +kernel
theorem dt_Rr_readRest_75 : decode prog_8_method_4_code 75 = .ok (.aload_n 1, 1) := by decide +kernel
theorem dt_Rr_readRest_76 : decode prog_8_method_4_code 76 = .ok (.iconst 1, 1) := by decide +kernel
theorem dt_Rr_readRest_77 : decode prog_8_method_4_code 77 = .ok (.invokestatic 78, 3) := by decide +kernel
theorem dt_Rr_readRest_80 : decode prog_8_method_4_code 80 = .ok (.goto 25, 3) := by decide +kernel
theorem dt_Rr_readRest_83 : decode prog_8_method_4_code 83 = .ok (.aload_n 0, 1) := by decide +kernel
theorem dt_Rr_readRest_84 : decode prog_8_method_4_code 84 = .ok (.aload_n 1, 1) := by decide +kernel
theorem dt_Rr_readRest_85 : decode prog_8_method_4_code 85 = .ok (.iconst (-1), 1) := by decide +kernel
theorem dt_Rr_readRest_86 : decode prog_8_method_4_code 86 = .ok (.invokestatic 78, 3) := by decide +kernel
theorem dt_Rr_readRest_89 : decode prog_8_method_4_code 89 = .ok (.goto 16, 3) := by decide +kernel
theorem dt_Rr_readRest_92 : decode prog_8_method_4_code 92 = .ok (.aload_n 0, 1) := by decide +kernel
theorem dt_Rr_readRest_93 : decode prog_8_method_4_code 93 = .ok (.aload_n 1, 1) := by decide +kernel
theorem dt_Rr_readRest_94 : decode prog_8_method_4_code 94 = .ok (.invokestatic 81, 3) := by decide +kernel
theorem dt_Rr_readRest_97 : decode prog_8_method_4_code 97 = .ok (.goto 8, 3) := by decide +kernel
theorem dt_Rr_readRest_100 : decode prog_8_method_4_code 100 = .ok (.aload_n 0, 1) := by decide +kernel
theorem dt_Rr_readRest_101 : decode prog_8_method_4_code 101 = .ok (.aload_n 1, 1) := by decide +kernel
theorem dt_Rr_readRest_102 : decode prog_8_method_4_code 102 = .ok (.invokestatic 84, 3) := by decide +kernel
theorem dt_Rr_readRest_105 : decode prog_8_method_4_code 105 = .ok (.return_, 1) := by decide +kernel
theorem dt_Rr_readAll_0 : decode prog_8_method_2_code 0 = .ok (.aload_n 0, 1) := by decide +kernel
theorem dt_Rr_readAll_1 : decode prog_8_method_2_code 1 = .ok (.ldc 11, 2) := by decide +kernel
theorem dt_Rr_readAll_3 : decode prog_8_method_2_code 3 = .ok (.invokevirtual 13, 3) := by decide +kernel
theorem dt_Rr_readAll_6 : decode prog_8_method_2_code 6 = .ok (.aload_n 1, 1) := by decide +kernel
theorem dt_Rr_readAll_7 : decode prog_8_method_2_code 7 = .ok (.invokevirtual 19, 3) := by decide +kernel
theorem dt_Rr_readAll_10 : decode prog_8_method_2_code 10 = .ok (.iconst 1, 1) := by decide +kernel
theorem dt_Rr_readAll_11 : decode prog_8_method_2_code 11 = .ok (.istore_n 2, 1) := by decide +kernel
theorem dt_Rr_readAll_12 : decode prog_8_method_2_code 12 = .ok (.iconst 0, 1) := by decide +kernel
theorem dt_Rr_readAll_13 : decode prog_8_method_2_code 13 = .ok (.istore_n 3, 1) := by decide +kernel
theorem dt_Rr_readAll_14 : decode prog_8_method_2_code 14 = .ok (.iload_n 2, 1) := by decide +kernel
theorem dt_Rr_readAll_15 : decode prog_8_method_2_code 15 = .ok (.ifCond .eq 93, 3) := by decide +kernel
theorem dt_Rr_readAll_18 : decode prog_8_method_2_code 18 = .ok (.iload_n 3, 1) := by decide +kernel
theorem dt_Rr_readAll_19 : decode prog_8_method_2_code 19 = .ok (.bipush 40, 2) := by decide +kernel
theorem dt_Rr_readAll_21 : decode prog_8_method_2_code 21 = .ok (.if_icmp .gt 87, 3) := by decide +kernel
theorem dt_Rr_readAll_24 : decode prog_8_method_2_code 24 = .ok (.aload_n 0, 1) := by decide +kernel
theorem dt_Rr_readAll_25 : decode prog_8_method_2_code 25 = .ok (.getfield 24, 3) := by decide +kernel
theorem dt_Rr_readAll_28 : decode prog_8_method_2_code 28 = .ok (.istore 4, 2) := by decide +kernel
theorem dt_Rr_readAll_30 : decode prog_8_method_2_code 30 = .ok (.iload 4, 2) := by decide +kernel
theorem dt_Rr_readAll_32 : decode prog_8_method_2_code 32 = .ok (.iconst (-1), 1) := by decide +kernel
theorem dt_Rr_readAll_33 : decode prog_8_method_2_code 33 = .ok (.if_icmp .ne 11, 3) := by decide +kernel
theorem dt_Rr_readAll_36 : decode prog_8_method_2_code 36 = .ok (.aload_n 0, 1) := by decide +kernel
theorem dt_Rr_readAll_37 : decode prog_8_method_2_code 37 = .ok (.iconst 0, 1) := by decide +kernel
theorem dt_Rr_readAll_38 : decode prog_8_method_2_code 38 = .ok (.invokevirtual 28, 3) := by decide +kernel
theorem dt_Rr_readAll_41 : decode prog_8_method_2_code 41 = .ok (.goto 38, 3) := by decide +kernel
theorem dt_Rr_readAll_44 : decode prog_8_method_2_code 44 = .ok (.iload_n 3, 1) := by decide +kernel
theorem dt_Rr_readAll_45 : decode prog_8_method_2_code 45 = .ok (.bipush 40, 2) := by decide +kernel
theorem dt_Rr_readAll_47 : decode prog_8_method_2_code 47 = .ok (.if_icmp .eq 13, 3) := by decide +kernel
theorem dt_Rr_readAll_50 : decode prog_8_method_2_code 50 = .ok (.aload_n 1, 1) := by decide +kernel
theorem dt_Rr_readAll_51 : decode prog_8_method_2_code 51 = .ok (.iload 4, 2) := by decide +kernel
theorem dt_Rr_readAll_53 : decode prog_8_method_2_code 53 = .ok (.iload_n 3, 1) := by decide +kernel
theorem dt_Rr_readAll_54 : decode prog_8_method_2_code 54 = .ok (.invokestatic 32, 3) := by decide +kernel
theorem dt_Rr_readAll_57 : decode prog_8_method_2_code 57 = .ok (.ifCond .ne 11, 3) := by decide +kernel
theorem dt_Rr_readAll_60 : decode prog_8_method_2_code 60 = .ok (.aload_n 0, 1) := by decide +kernel
theorem dt_Rr_readAll_61 : decode prog_8_method_2_code 61 = .ok (.iconst 4, 1) := by decide +kernel
theorem dt_Rr_readAll_62 : decode prog_8_method_2_code 62 = .ok (.invokevirtual 28, 3) := by decide +kernel
theorem dt_Rr_readAll_65 : decode prog_8_method_2_code 65 = .ok (.goto 14, 3) := by decide +kernel
theorem dt_Rr_readAll_68 : decode prog_8_method_2_code 68 = .ok (.aload_n 0, 1) := by decide +kernel
theorem dt_Rr_readAll_69 : decode prog_8_method_2_code 69 = .ok (.invokevirtual 36, 3) := by decide +kernel
theorem dt_Rr_readAll_72 : decode prog_8_method_2_code 72 = .ok (.aload_n 0, 1) := by decide +kernel
theorem dt_Rr_readAll_73 : decode prog_8_method_2_code 73 = .ok (.aload_n 1, 1) := by decide +kernel
theorem dt_Rr_readAll_74 : decode prog_8_method_2_code 74 = .ok (.iload 4, 2) := by decide +kernel
theorem dt_Rr_readAll_76 : decode prog_8_method_2_code 76 = .ok (.invokestatic 39, 3) := by decide +kernel
theorem dt_Rr_readAll_79 : decode prog_8_method_2_code 79 = .ok (.aload_n 0, 1) := by decide +kernel
theorem dt_Rr_readAll_80 : decode prog_8_method_2_code 80 = .ok (.getfield 43, 3) := by decide +kernel
theorem dt_Rr_readAll_83 : decode prog_8_method_2_code 83 = .ok (.bipush 59, 2) := by decide +kernel
theorem dt_Rr_readAll_85 : decode prog_8_method_2_code 85 = .ok (.if_icmp .ne 7, 3) := by decide +kernel
theorem dt_Rr_readAll_88 : decode prog_8_method_2_code 88 = .ok (.iconst 1, 1) := by decide +kernel
theorem dt_Rr_readAll_89 : decode prog_8_method_2_code 89 = .ok (.goto 4, 3) := by decide +kernel
theorem dt_Rr_readAll_92 : decode prog_8_method_2_code 92 = .ok (.iconst 0, 1) := by decide +kernel
theorem dt_Rr_readAll_93 : decode prog_8_method_2_code 93 = .ok (.istore_n 2, 1) := by decide +kernel
theorem dt_Rr_readAll_94 : decode prog_8_method_2_code 94 = .ok (.iload_n 2, 1) := by decide +kernel
theorem dt_Rr_readAll_95 : decode prog_8_method_2_code 95 = .ok (.ifCond .eq 7, 3) := by decide +kernel
theorem dt_Rr_readAll_98 : decode prog_8_method_2_code 98 = .ok (.aload_n 0, 1) := by decide +kernel
theorem dt_Rr_readAll_99 : decode prog_8_method_2_code 99 = .ok (.invokevirtual 36, 3) := by decide +kernel
theorem dt_Rr_readAll_102 : decode prog_8_method_2_code 102 = .ok (.iinc 3 1, 3) := by decide +kernel
theorem dt_Rr_readAll_105 : decode prog_8_method_2_code 105 = .ok (.goto (-91), 3) := by decide +kernel
theorem dt_Rr_readAll_108 : decode prog_8_method_2_code 108 = .ok (.aload_n 0, 1) := by decide +kernel
theorem dt_Rr_readAll_109 : decode prog_8_method_2_code 109 = .ok (.getfield 43, 3) := by decide +kernel
theorem dt_Rr_readAll_112 : decode prog_8_method_2_code 112 = .ok (.iconst (-1), 1) := by decide +kernel
theorem dt_Rr_readAll_113 : decode prog_8_method_2_code 113 = .ok (.if_icmp .eq 8, 3) := by decide +kernel
theorem dt_Rr_readAll_116 : decode prog_8_method_2_code 116 = .ok (.aload_n 0, 1) := by decide +kernel
theorem dt_Rr_readAll_117 : decode prog_8_method_2_code 117 = .ok (.iconst 0, 1) := by decide +kernel
theorem dt_Rr_readAll_118 : decode prog_8_method_2_code 118 = .ok (.invokevirtual 28, 3) := by decide +kernel
theorem dt_Rr_readAll_121 : decode prog_8_method_2_code 121 = .ok (.aload_n 1, 1) := by decide +kernel
theorem dt_Rr_readAll_122 : decode prog_8_method_2_code 122 = .ok (.aload_n 0, 1) := by decide +kernel
theorem dt_Rr_readAll_123 : decode prog_8_method_2_code 123 = .ok (.getfield 46, 3) := by decide +kernel
theorem dt_Rr_readAll_126 : decode prog_8_method_2_code 126 = .ok (.ifCond .ne 7, 3) := by decide +kernel
theorem dt_Rr_readAll_129 : decode prog_8_method_2_code 129 = .ok (.iconst 1, 1) := by decide +kernel
theorem dt_Rr_readAll_130 : decode prog_8_method_2_code 130 = .ok (.goto 4, 3) := by decide +kernel
theorem dt_Rr_readAll_133 : decode prog_8_method_2_code 133 = .ok (.iconst 0, 1) := by decide +kernel
theorem dt_Rr_readAll_134 : decode prog_8_method_2_code 134 = .ok (.putfield 49, 3) := by decide +kernel
theorem dt_Rr_readAll_137 : decode prog_8_method_2_code 137 = .ok (.aload_n 0, 1) := by decide +kernel
theorem dt_Rr_readAll_138 : decode prog_8_method_2_code 138 = .ok (.getfield 46, 3) := by decide +kernel
theorem dt_Rr_readAll_141 : decode prog_8_method_2_code 141 = .ok (.ireturn, 1) := by decide +kernel