theorem dX0_init_0 : decode cX0_init 0 = .ok (.aload_n 0, 1) := by decide +kernel
theorem dX0_init_1 : decode cX0_init 1 = .ok (.invokespecial 3, 3) := by decide +kernel
theorem dX0_init_4 : decode cX0_init 4 = .ok (.aload_n 0, 1) := by decide +kernel
theorem dX0_init_5 : decode cX0_init 5 = .ok (.sipush 255, 3) := by decide +kernel
theorem dX0_init_8 : decode cX0_init 8 = .ok (.putfield 9, 3) := by decide +kernel
theorem dX0_init_11 : decode cX0_init 11 = .ok (.aload_n 0, 1) := by decide +kernel
theorem dX0_init_12 : decode cX0_init 12 = .ok (.bipush 8, 2) := by decide +kernel
theorem dX0_init_14 : decode cX0_init 14 = .ok (.newarray .int, 2) := by decide +kernel
theorem dX0_init_16 : decode cX0_init 16 = .ok (.putfield 15, 3) := by decide +kernel
theorem dX0_init_19 : decode cX0_init 19 = .ok (.iconst 0, 1) := by decide +kernel
theorem dX0_init_20 : decode cX0_init 20 = .ok (.istore_n 1, 1) := by decide +kernel
theorem dX0_init_21 : decode cX0_init 21 = .ok (.iload_n 1, 1) := by decide +kernel
theorem dX0_init_22 : decode cX0_init 22 = .ok (.bipush 8, 2) := by decide +kernel
theorem dX0_init_24 : decode cX0_init 24 = .ok (.if_icmp .ge 16, 3) := by decide +kernel
theorem dX0_init_27 : decode cX0_init 27 = .ok (.aload_n 0, 1) := by decide +kernel
theorem dX0_init_28 : decode cX0_init 28 = .ok (.getfield 15, 3) := by decide +kernel
theorem dX0_init_31 : decode cX0_init 31 = .ok (.iload_n 1, 1) := by decide +kernel
theorem dX0_init_32 : decode cX0_init 32 = .ok (.iconst (-1), 1) := by decide +kernel
theorem dX0_init_33 : decode cX0_init 33 = .ok (.iastore, 1) := by decide +kernel
theorem dX0_init_34 : decode cX0_init 34 = .ok (.iinc 1 1, 3) := by decide +kernel
theorem dX0_init_37 : decode cX0_init 37 = .ok (.goto (-16), 3) := by decide +kernel
theorem dX0_init_40 : decode cX0_init 40 = .ok (.return_, 1) := by decide +kernel
theorem dX0_isOn_0 : decode cX0_isOn 0 = .ok (.iload_n 1, 1) := by decide +kernel
theorem dX0_isOn_1 : decode cX0_isOn 1 = .ok (.invokestatic 19, 3) := by decide +kernel
theorem dX0_isOn_4 : decode cX0_isOn 4 = .ok (.ifCond .eq 18, 3) := by decide +kernel
theorem dX0_isOn_7 : decode cX0_isOn 7 = .ok (.aload_n 0, 1) := by decide +kernel
theorem dX0_isOn_8 : decode cX0_isOn 8 = .ok (.getfield 9, 3) := by decide +kernel
theorem dX0_isOn_11 : decode cX0_isOn 11 = .ok (.iload_n 1, 1) := by decide +kernel
theorem dX0_isOn_12 : decode cX0_isOn 12 = .ok (.ishr, 1) := by decide +kernel
theorem dX0_isOn_13 : decode cX0_isOn 13 = .ok (.iconst 1, 1) := by decide +kernel
theorem dX0_isOn_14 : decode cX0_isOn 14 = .ok (.iand, 1) := by decide +kernel
theorem dX0_isOn_15 : decode cX0_isOn 15 = .ok (.ifCond .eq 7, 3) := by decide +kernel
theorem dX0_isOn_18 : decode cX0_isOn 18 = .ok (.iconst 1, 1) := by decide +kernel
theorem dX0_isOn_19 : decode cX0_isOn 19 = .ok (.goto 4, 3) := by decide +kernel
theorem dX0_isOn_22 : decode cX0_isOn 22 = .ok (.iconst 0, 1) := by decide +kernel
theorem dX0_isOn_23 : decode cX0_isOn 23 = .ok (.ireturn, 1) := by decide +kernel
theorem dX0_tellShift_0 : decode cX0_tellShift 0 = .ok (.aload_n 0, 1) := by decide +kernel
theorem dX0_tellShift_1 : decode cX0_tellShift 1 = .ok (.iload_n 2, 1) := by decide +kernel
theorem dX0_tellShift_2 : decode cX0_tellShift 2 = .ok (.ifCond .eq 14, 3) := by decide +kernel
theorem dX0_tellShift_5 : decode cX0_tellShift 5 = .ok (.aload_n 0, 1) := by decide +kernel
theorem dX0_tellShift_6 : decode cX0_tellShift 6 = .ok (.getfield 9, 3) := by decide +kernel
theorem dX0_tellShift_9 : decode cX0_tellShift 9 = .ok (.iconst 1, 1) := by decide +kernel
theorem dX0_tellShift_10 : decode cX0_tellShift 10 = .ok (.iload_n 1, 1) := by decide +kernel
theorem dX0_tellShift_11 : decode cX0_tellShift 11 = .ok (.ishl, 1) := by decide +kernel
theorem dX0_tellShift_12 : decode cX0_tellShift 12 = .ok (.ior, 1) := by decide +kernel
theorem dX0_tellShift_13 : decode cX0_tellShift 13 = .ok (.goto 13, 3) := by decide +kernel
theorem dX0_tellShift_16 : decode cX0_tellShift 16 = .ok (.aload_n 0, 1) := by decide +kernel
theorem dX0_tellShift_17 : decode cX0_tellShift 17 = .ok (.getfield 9, 3) := by decide +kernel
theorem dX0_tellShift_20 : decode cX0_tellShift 20 = .ok (.iconst 1, 1) := by decide +kernel
theorem dX0_tellShift_21 : decode cX0_tellShift 21 = .ok (.iload_n 1, 1) := by decide +kernel
theorem dX0_tellShift_22 : decode cX0_tellShift 22 = .ok (.ishl, 1) := by decide +kernel
theorem dX0_tellShift_23 : decode cX0_tellShift 23 = .ok (.iconst (-1), 1) := by decide +kernel
theorem dX0_tellShift_24 : decode cX0_tellShift 24 = .ok (.ixor, 1) := by decide +kernel
theorem dX0_tellShift_25 : decode cX0_tellShift 25 = .ok (.iand, 1) := by decide +kernel
theorem dX0_tellShift_26 : decode cX0_tellShift 26 = .ok (.putfield 9, 3) := by decide +kernel
theorem dX0_tellShift_29 : decode cX0_tellShift 29 = .ok (.return_, 1) := by decide +kernel
theorem dX0_insideFor_0 : decode cX0_insideFor 0 = .ok (.iconst 0, 1) := by decide +kernel
theorem dX0_insideFor_1 : decode cX0_insideFor 1 = .ok (.istore_n 2, 1) := by decide +kernel
theorem dX0_insideFor_2 : decode cX0_insideFor 2 = .ok (.iconst 0, 1) := by decide +kernel
theorem dX0_insideFor_3 : decode cX0_insideFor 3 = .ok (.istore_n 3, 1) := by decide +kernel
theorem dX0_insideFor_4 : decode cX0_insideFor 4 = .ok (.iload_n 3, 1) := by decide +kernel
theorem dX0_insideFor_5 : decode cX0_insideFor 5 = .ok (.bipush 8, 2) := by decide +kernel
theorem dX0_insideFor_7 : decode cX0_insideFor 7 = .ok (.if_icmp .ge 27, 3) := by decide +kernel
theorem dX0_insideFor_10 : decode cX0_insideFor 10 = .ok (.iload_n 2, 1) := by decide +kernel
theorem dX0_insideFor_11 : decode cX0_insideFor 11 = .ok (.aload_n 0, 1) := by decide +kernel
theorem dX0_insideFor_12 : decode cX0_insideFor 12 = .ok (.getfield 15, 3) := by decide +kernel
theorem dX0_insideFor_15 : decode cX0_insideFor 15 = .ok (.iload_n 3, 1) := by decide +kernel
theorem dX0_insideFor_16 : decode cX0_insideFor 16 = .ok (.iaload, 1) := by decide +kernel
theorem dX0_insideFor_17 : decode cX0_insideFor 17 = .ok (.iload_n 1, 1) := by decide +kernel
theorem dX0_insideFor_18 : decode cX0_insideFor 18 = .ok (.if_icmp .ne 7, 3) := by decide +kernel
theorem dX0_insideFor_21 : decode cX0_insideFor 21 = .ok (.iconst 1, 1) := by decide +kernel
theorem dX0_insideFor_22 : decode cX0_insideFor 22 = .ok (.goto 4, 3) := by decide +kernel
theorem dX0_insideFor_25 : decode cX0_insideFor 25 = .ok (.iconst 0, 1) := by decide +kernel
theorem dX0_insideFor_26 : decode cX0_insideFor 26 = .ok (.iadd, 1) := by decide +kernel
theorem dX0_insideFor_27 : decode cX0_insideFor 27 = .ok (.istore_n 2, 1) := by decide +kernel
theorem dX0_insideFor_28 : decode cX0_insideFor 28 = .ok (.iinc 3 1, 3) := by decide +kernel
theorem dX0_insideFor_31 : decode cX0_insideFor 31 = .ok (.goto (-27), 3) := by decide +kernel
theorem dX0_insideFor_34 : decode cX0_insideFor 34 = .ok (.iload_n 2, 1) := by decide +kernel
theorem dX0_insideFor_35 : decode cX0_insideFor 35 = .ok (.ireturn, 1) := by decide +kernel
theorem dX0_allInside_0 : decode cX0_allInside 0 = .ok (.bipush 8, 2) := by decide +kernel
theorem dX0_allInside_2 : decode cX0_allInside 2 = .ok (.aload_n 0, 1) := by decide +kernel
theorem dX0_allInside_3 : decode cX0_allInside 3 = .ok (.iconst (-1), 1) := by decide +kernel
theorem dX0_allInside_4 : decode cX0_allInside 4 = .ok (.invokevirtual 23, 3) := by decide +kernel
theorem dX0_allInside_7 : decode cX0_allInside 7 = .ok (.isub, 1) := by decide +kernel
theorem dX0_allInside_8 : decode cX0_allInside 8 = .ok (.ireturn, 1) := by decide +kernel
theorem dX0_comeOut_0 : decode cX0_comeOut 0 = .ok (.aload_n 0, 1) := by decide +kernel
theorem dX0_comeOut_1 : decode cX0_comeOut 1 = .ok (.invokevirtual 27, 3) := by decide +kernel
theorem dX0_comeOut_4 : decode cX0_comeOut 4 = .ok (.istore_n 1, 1) := by decide +kernel
theorem dX0_comeOut_5 : decode cX0_comeOut 5 = .ok (.iconst 0, 1) := by decide +kernel
theorem dX0_comeOut_6 : decode cX0_comeOut 6 = .ok (.istore_n 2, 1) := by decide +kernel
theorem dX0_comeOut_7 : decode cX0_comeOut 7 = .ok (.iload_n 2, 1) := by decide +kernel
theorem dX0_comeOut_8 : decode cX0_comeOut 8 = .ok (.bipush 8, 2) := by decide +kernel
theorem dX0_comeOut_10 : decode cX0_comeOut 10 = .ok (.if_icmp .ge 16, 3) := by decide +kernel
theorem dX0_comeOut_13 : decode cX0_comeOut 13 = .ok (.aload_n 0, 1) := by decide +kernel
theorem dX0_comeOut_14 : decode cX0_comeOut 14 = .ok (.getfield 15, 3) := by decide +kernel
theorem dX0_comeOut_17 : decode cX0_comeOut 17 = .ok (.iload_n 2, 1) := by decide +kernel
theorem dX0_comeOut_18 : decode cX0_comeOut 18 = .ok (.iconst (-1), 1) := by decide +kernel
theorem dX0_comeOut_19 : decode cX0_comeOut 19 = .ok (.iastore, 1) := by decide +kernel
theorem dX0_comeOut_20 : decode cX0_comeOut 20 = .ok (.iinc 2 1, 3) := by decide +kernel
theorem dX0_comeOut_23 : decode cX0_comeOut 23 = .ok (.goto (-16), 3) := by decide +kernel
theorem dX0_comeOut_26 : decode cX0_comeOut 26 = .ok (.iload_n 1, 1) := by decide +kernel
theorem dX0_comeOut_27 : decode cX0_comeOut 27 = .ok (.ireturn, 1) := by decide +kernel
theorem dX1_init_0 : decode cX1_init 0 = .ok (.aload_n 0, 1) := by decide +kernel
theorem dX1_init_1 : decode cX1_init 1 = .ok (.invokespecial 3, 3) := by decide +kernel
theorem dX1_init_4 : decode cX1_init 4 = .ok (.aload_n 0, 1) := by decide +kernel
theorem dX1_init_5 : decode cX1_init 5 = .ok (.sipush 301, 3) := by decide +kernel
theorem dX1_init_8 : decode cX1_init 8 = .ok (.newarray .int, 2) := by decide +kernel
theorem dX1_init_10 : decode cX1_init 10 = .ok (.putfield 9, 3) := by decide +kernel
theorem dX1_init_13 : decode cX1_init 13 = .ok (.aload_n 0, 1) := by decide +kernel
theorem dX1_init_14 : decode cX1_init 14 = .ok (.sipush 301, 3) := by decide +kernel
theorem dX1_init_17 : decode cX1_init 17 = .ok (.newarray .int, 2) := by decide +kernel
theorem dX1_init_19 : decode cX1_init 19 = .ok (.putfield 15, 3) := by decide +kernel
theorem dX1_init_22 : decode cX1_init 22 = .ok (.return_, 1) := by decide +kernel
theorem dX1_keep_0 : decode cX1_keep 0 = .ok (.iload_n 1, 1) := by decide +kernel
theorem dX1_keep_1 : decode cX1_keep 1 = .ok (.istore 5, 2) := by decide +kernel
theorem dX1_keep_3 : decode cX1_keep 3 = .ok (.iload 5, 2) := by decide +kernel
theorem dX1_keep_5 : decode cX1_keep 5 = .ok (.iload_n 2, 1) := by decide +kernel
theorem dX1_keep_6 : decode cX1_keep 6 = .ok (.if_icmp .ge 26, 3) := by decide +kernel
theorem dX1_keep_9 : decode cX1_keep 9 = .ok (.aload_n 0, 1) := by decide +kernel
theorem dX1_keep_10 : decode cX1_keep 10 = .ok (.getfield 9, 3) := by decide +kernel
theorem dX1_keep_13 : decode cX1_keep 13 = .ok (.iload 5, 2) := by decide +kernel
theorem dX1_keep_15 : decode cX1_keep 15 = .ok (.iload_n 3, 1) := by decide +kernel
theorem dX1_keep_16 : decode cX1_keep 16 = .ok (.iastore, 1) := by decide +kernel
theorem dX1_keep_17 : decode cX1_keep 17 = .ok (.aload_n 0, 1) := by decide +kernel
theorem dX1_keep_18 : decode cX1_keep 18 = .ok (.getfield 15, 3) := by decide +kernel
theorem dX1_keep_21 : decode cX1_keep 21 = .ok (.iload 5, 2) := by decide +kernel
theorem dX1_keep_23 : decode cX1_keep 23 = .ok (.iload 4, 2) := by decide +kernel
theorem dX1_keep_25 : decode cX1_keep 25 = .ok (.iastore, 1) := by decide +kernel
theorem dX1_keep_26 : decode cX1_keep 26 = .ok (.iinc 5 1, 3) := by decide +kernel
theorem dX1_keep_29 : decode cX1_keep 29 = .ok (.goto (-26), 3) := by decide +kernel
theorem dX1_keep_32 : decode cX1_keep 32 = .ok (.return_, 1) := by decide +kernel
theorem dX2_init_0 : decode cX2_init 0 = .ok (.aload_n 0, 1) := by decide +kernel
theorem dX2_init_1 : decode cX2_init 1 = .ok (.invokespecial 3, 3) := by decide +kernel
theorem dX2_init_4 : decode cX2_init 4 = .ok (.aload_n 0, 1) := by decide +kernel
theorem dX2_init_5 : decode cX2_init 5 = .ok (.bipush 12, 2) := by decide +kernel
theorem dX2_init_7 : decode cX2_init 7 = .ok (.newarray .int, 2) := by decide +kernel
theorem dX2_init_9 : decode cX2_init 9 = .ok (.putfield 9, 3) := by decide +kernel
theorem dX2_init_12 : decode cX2_init 12 = .ok (.aload_n 0, 1) := by decide +kernel
theorem dX2_init_13 : decode cX2_init 13 = .ok (.bipush 12, 2) := by decide +kernel
theorem dX2_init_15 : decode cX2_init 15 = .ok (.newarray .int, 2) := by decide +kernel
theorem dX2_init_17 : decode cX2_init 17 = .ok (.putfield 15, 3) := by decide +kernel
theorem dX2_init_20 : decode cX2_init 20 = .ok (.aload_n 0, 1) := by decide +kernel
theorem dX2_init_21 : decode cX2_init 21 = .ok (.bipush 12, 2) := by decide +kernel
theorem dX2_init_23 : decode cX2_init 23 = .ok (.newarray .int, 2) := by decide +kernel
theorem dX2_init_25 : decode cX2_init 25 = .ok (.putfield 18, 3) := by decide +kernel
theorem dX2_init_28 : decode cX2_init 28 = .ok (.aload_n 0, 1) := by decide +kernel
theorem dX2_init_29 : decode cX2_init 29 = .ok (.bipush 12, 2) := by decide +kernel
theorem dX2_init_31 : decode cX2_init 31 = .ok (.newarray .int, 2) := by decide +kernel
theorem dX2_init_33 : decode cX2_init 33 = .ok (.putfield 21, 3) := by decide +kernel
theorem dX2_init_36 : decode cX2_init 36 = .ok (.aload_n 0, 1) := by decide +kernel
theorem dX2_init_37 : decode cX2_init 37 = .ok (.bipush 12, 2) := by decide +kernel
theorem dX2_init_39 : decode cX2_init 39 = .ok (.newarray .int, 2) := by decide +kernel
theorem dX2_init_41 : decode cX2_init 41 = .ok (.putfield 24, 3) := by decide +kernel
theorem dX2_init_44 : decode cX2_init 44 = .ok (.aload_n 0, 1) := by decide +kernel
theorem dX2_init_45 : decode cX2_init 45 = .ok (.iconst 3, 1) := by decide +kernel
theorem dX2_init_46 : decode cX2_init 46 = .ok (.newarray .int, 2) := by decide +kernel
theorem dX2_init_48 : decode cX2_init 48 = .ok (.putfield 27, 3) := by decide +kernel
theorem dX2_init_51 : decode cX2_init 51 = .ok (.aload_n 0, 1) := by decide +kernel
theorem dX2_init_52 : decode cX2_init 52 = .ok (.iconst 0, 1) := by decide +kernel
theorem dX2_init_53 : decode cX2_init 53 = .ok (.putfield 30, 3) := by decide +kernel
theorem dX2_init_56 : decode cX2_init 56 = .ok (.aload_n 0, 1) := by decide +kernel
theorem dX2_init_57 : decode cX2_init 57 = .ok (.iconst 0, 1) := by decide +kernel
theorem dX2_init_58 : decode cX2_init 58 = .ok (.putfield 34, 3) := by decide +kernel
theorem dX2_init_61 : decode cX2_init 61 = .ok (.aload_n 0, 1) := by decide +kernel
theorem dX2_init_62 : decode cX2_init 62 = .ok (.iconst 0, 1) := by decide +kernel
theorem dX2_init_63 : decode cX2_init 63 = .ok (.putfield 37, 3) := by decide +kernel
theorem dX2_init_66 : decode cX2_init 66 = .ok (.aload_n 0, 1) := by decide +kernel
theorem dX2_init_67 : decode cX2_init 67 = .ok (.iconst 0, 1) := by decide +kernel
theorem dX2_init_68 : decode cX2_init 68 = .ok (.putfield 40, 3) := by decide +kernel
theorem dX2_init_71 : decode cX2_init 71 = .ok (.return_, 1) := by decide +kernel
theorem dX2_lay_0 : decode cX2_lay 0 = .ok (.aload_n 0, 1) := by decide +kernel
theorem dX2_lay_1 : decode cX2_lay 1 = .ok (.getfield 30, 3) := by decide +kernel
theorem dX2_lay_4 : decode cX2_lay 4 = .ok (.istore 5, 2) := by decide +kernel
theorem dX2_lay_6 : decode cX2_lay 6 = .ok (.aload_n 0, 1) := by decide +kernel
theorem dX2_lay_7 : decode cX2_lay 7 = .ok (.getfield 9, 3) := by decide +kernel
theorem dX2_lay_10 : decode cX2_lay 10 = .ok (.iload 5, 2) := by decide +kernel
theorem dX2_lay_12 : decode cX2_lay 12 = .ok (.iload_n 1, 1) := by decide +kernel
theorem dX2_lay_13 : decode cX2_lay 13 = .ok (.iastore, 1) := by decide +kernel
theorem dX2_lay_14 : decode cX2_lay 14 = .ok (.aload_n 0, 1) := by decide +kernel
theorem dX2_lay_15 : decode cX2_lay 15 = .ok (.getfield 15, 3) := by decide +kernel
theorem dX2_lay_18 : decode cX2_lay 18 = .ok (.iload 5, 2) := by decide +kernel
theorem dX2_lay_20 : decode cX2_lay 20 = .ok (.iload_n 2, 1) := by decide +kernel
theorem dX2_lay_21 : decode cX2_lay 21 = .ok (.iastore, 1) := by decide +kernel
theorem dX2_lay_22 : decode cX2_lay 22 = .ok (.aload_n 0, 1) := by decide +kernel
theorem dX2_lay_23 : decode cX2_lay 23 = .ok (.getfield 18, 3) := by decide +kernel
theorem dX2_lay_26 : decode cX2_lay 26 = .ok (.iload 5, 2) := by decide +kernel
theorem dX2_lay_28 : decode cX2_lay 28 = .ok (.iconst 1, 1) := by decide +kernel
theorem dX2_lay_29 : decode cX2_lay 29 = .ok (.iload_n 1, 1) := by decide +kernel
theorem dX2_lay_30 : decode cX2_lay 30 = .ok (.ishl, 1) := by decide +kernel
theorem dX2_lay_31 : decode cX2_lay 31 = .ok (.iconst 1, 1) := by decide +kernel
theorem dX2_lay_32 : decode cX2_lay 32 = .ok (.iload_n 2, 1) := by decide +kernel
theorem dX2_lay_33 : decode cX2_lay 33 = .ok (.ishl, 1) := by decide +kernel
theorem dX2_lay_34 : decode cX2_lay 34 = .ok (.ior, 1) := by decide +kernel
theorem dX2_lay_35 : decode cX2_lay 35 = .ok (.iastore, 1) := by decide +kernel
theorem dX2_lay_36 : decode cX2_lay 36 = .ok (.aload_n 0, 1) := by decide +kernel
theorem dX2_lay_37 : decode cX2_lay 37 = .ok (.getfield 21, 3) := by decide +kernel
theorem dX2_lay_40 : decode cX2_lay 40 = .ok (.iload 5, 2) := by decide +kernel
theorem dX2_lay_42 : decode cX2_lay 42 = .ok (.iload_n 3, 1) := by decide +kernel
theorem dX2_lay_43 : decode cX2_lay 43 = .ok (.iastore, 1) := by decide +kernel
theorem dX2_lay_44 : decode cX2_lay 44 = .ok (.aload_n 0, 1) := by decide +kernel
theorem dX2_lay_45 : decode cX2_lay 45 = .ok (.getfield 24, 3) := by decide +kernel
theorem dX2_lay_48 : decode cX2_lay 48 = .ok (.iload 5, 2) := by decide +kernel
theorem dX2_lay_50 : decode cX2_lay 50 = .ok (.iload 4, 2) := by decide +kernel
theorem dX2_lay_52 : decode cX2_lay 52 = .ok (.iastore, 1) := by decide +kernel
theorem dX2_lay_53 : decode cX2_lay 53 = .ok (.aload_n 0, 1) := by decide +kernel
theorem dX2_lay_54 : decode cX2_lay 54 = .ok (.dup, 1) := by decide +kernel
theorem dX2_lay_55 : decode cX2_lay 55 = .ok (.getfield 34, 3) := by decide +kernel
theorem dX2_lay_58 : decode cX2_lay 58 = .ok (.iload_n 3, 1) := by decide +kernel
theorem dX2_lay_59 : decode cX2_lay 59 = .ok (.ifCond .ne 10, 3) := by decide +kernel
theorem dX2_lay_62 : decode cX2_lay 62 = .ok (.iconst 1, 1) := by decide +kernel
theorem dX2_lay_63 : decode cX2_lay 63 = .ok (.iload 5, 2) := by decide +kernel
theorem dX2_lay_65 : decode cX2_lay 65 = .ok (.ishl, 1) := by decide +kernel
theorem dX2_lay_66 : decode cX2_lay 66 = .ok (.goto 4, 3) := by decide +kernel
theorem dX2_lay_69 : decode cX2_lay 69 = .ok (.iconst 0, 1) := by decide +kernel
theorem dX2_lay_70 : decode cX2_lay 70 = .ok (.ior, 1) := by decide +kernel
theorem dX2_lay_71 : decode cX2_lay 71 = .ok (.putfield 34, 3) := by decide +kernel
theorem dX2_lay_74 : decode cX2_lay 74 = .ok (.aload_n 0, 1) := by decide +kernel
theorem dX2_lay_75 : decode cX2_lay 75 = .ok (.dup, 1) := by decide +kernel
theorem dX2_lay_76 : decode cX2_lay 76 = .ok (.getfield 37, 3) := by decide +kernel
theorem dX2_lay_79 : decode cX2_lay 79 = .ok (.iload_n 3, 1) := by decide +kernel
theorem dX2_lay_80 : decode cX2_lay 80 = .ok (.iconst 1, 1) := by decide +kernel
theorem dX2_lay_81 : decode cX2_lay 81 = .ok (.if_icmp .ne 10, 3) := by decide +kernel
theorem dX2_lay_84 : decode cX2_lay 84 = .ok (.iconst 1, 1) := by decide +kernel
theorem dX2_lay_85 : decode cX2_lay 85 = .ok (.iload 5, 2) := by decide +kernel
theorem dX2_lay_87 : decode cX2_lay 87 = .ok (.ishl, 1) := by decide +kernel
theorem dX2_lay_88 : decode cX2_lay 88 = .ok (.goto 4, 3) := by decide +kernel
theorem dX2_lay_91 : decode cX2_lay 91 = .ok (.iconst 0, 1) := by decide +kernel
theorem dX2_lay_92 : decode cX2_lay 92 = .ok (.ior, 1) := by decide +kernel
theorem dX2_lay_93 : decode cX2_lay 93 = .ok (.putfield 37, 3) := by decide +kernel
theorem dX2_lay_96 : decode cX2_lay 96 = .ok (.aload_n 0, 1) := by decide +kernel
theorem dX2_lay_97 : decode cX2_lay 97 = .ok (.dup, 1) := by decide +kernel
theorem dX2_lay_98 : decode cX2_lay 98 = .ok (.getfield 30, 3) := by decide +kernel
theorem dX2_lay_101 : decode cX2_lay 101 = .ok (.iconst 1, 1) := by decide +kernel
theorem dX2_lay_102 : decode cX2_lay 102 = .ok (.iadd, 1) := by decide +kernel
theorem dX2_lay_103 : decode cX2_lay 103 = .ok (.putfield 30, 3) := by decide +kernel
theorem dX2_lay_106 : decode cX2_lay 106 = .ok (.iload 5, 2) := by decide +kernel
theorem dX2_lay_108 : decode cX2_lay 108 = .ok (.ireturn, 1) := by decide +kernel
theorem dX2_has_0 : decode cX2_has 0 = .ok (.iload_n 1, 1) := by decide +kernel
theorem dX2_has_1 : decode cX2_has 1 = .ok (.ifCond .lt 15, 3) := by decide +kernel
theorem dX2_has_4 : decode cX2_has 4 = .ok (.iload_n 1, 1) := by decide +kernel
theorem dX2_has_5 : decode cX2_has 5 = .ok (.aload_n 0, 1) := by decide +kernel
theorem dX2_has_6 : decode cX2_has 6 = .ok (.getfield 30, 3) := by decide +kernel
theorem dX2_has_9 : decode cX2_has 9 = .ok (.if_icmp .ge 7, 3) := by decide +kernel
theorem dX2_has_12 : decode cX2_has 12 = .ok (.iconst 1, 1) := by decide +kernel
theorem dX2_has_13 : decode cX2_has 13 = .ok (.goto 4, 3) := by decide +kernel
theorem dX2_has_16 : decode cX2_has 16 = .ok (.iconst 0, 1) := by decide +kernel
theorem dX2_has_17 : decode cX2_has 17 = .ok (.ireturn, 1) := by decide +kernel
theorem dX2_hasFitting_0 : decode cX2_hasFitting 0 = .ok (.aload_n 0, 1) := by decide +kernel
theorem dX2_hasFitting_1 : decode cX2_hasFitting 1 = .ok (.iload_n 1, 1) := by decide +kernel
theorem dX2_hasFitting_2 : decode cX2_hasFitting 2 = .ok (.invokevirtual 43, 3) := by decide +kernel
theorem dX2_hasFitting_5 : decode cX2_hasFitting 5 = .ok (.ifCond .eq 17, 3) := by decide +kernel
theorem dX2_hasFitting_8 : decode cX2_hasFitting 8 = .ok (.aload_n 0, 1) := by decide +kernel
theorem dX2_hasFitting_9 : decode cX2_hasFitting 9 = .ok (.getfield 21, 3) := by decide +kernel
theorem dX2_hasFitting_12 : decode cX2_hasFitting 12 = .ok (.iload_n 1, 1) := by decide +kernel
theorem dX2_hasFitting_13 : decode cX2_hasFitting 13 = .ok (.iaload, 1) := by decide +kernel
theorem dX2_hasFitting_14 : decode cX2_hasFitting 14 = .ok (.iconst 2, 1) := by decide +kernel
theorem dX2_hasFitting_15 : decode cX2_hasFitting 15 = .ok (.if_icmp .eq 7, 3) := by decide +kernel
theorem dX2_hasFitting_18 : decode cX2_hasFitting 18 = .ok (.iconst 1, 1) := by decide +kernel
theorem dX2_hasFitting_19 : decode cX2_hasFitting 19 = .ok (.goto 4, 3) := by decide +kernel
theorem dX2_hasFitting_22 : decode cX2_hasFitting 22 = .ok (.iconst 0, 1) := by decide +kernel
theorem dX2_hasFitting_23 : decode cX2_hasFitting 23 = .ok (.ireturn, 1) := by decide +kernel
theorem dX2_allPipes_0 : decode cX2_allPipes 0 = .ok (.iconst 1, 1) := by decide +kernel
theorem dX2_allPipes_1 : decode cX2_allPipes 1 = .ok (.aload_n 0, 1) := by decide +kernel
theorem dX2_allPipes_2 : decode cX2_allPipes 2 = .ok (.getfield 30, 3) := by decide +kernel
theorem dX2_allPipes_5 : decode cX2_allPipes 5 = .ok (.ishl, 1) := by decide +kernel
theorem dX2_allPipes_6 : decode cX2_allPipes 6 = .ok (.iconst 1, 1) := by decide +kernel
theorem dX2_allPipes_7 : decode cX2_allPipes 7 = .ok (.isub, 1) := by decide +kernel
theorem dX2_allPipes_8 : decode cX2_allPipes 8 = .ok (.ireturn, 1) := by decide +kernel
theorem dX2_allFittings_0 : decode cX2_allFittings 0 = .ok (.aload_n 0, 1) := by decide +kernel
theorem dX2_allFittings_1 : decode cX2_allFittings 1 = .ok (.getfield 34, 3) := by decide +kernel
theorem dX2_allFittings_4 : decode cX2_allFittings 4 = .ok (.aload_n 0, 1) := by decide +kernel
theorem dX2_allFittings_5 : decode cX2_allFittings 5 = .ok (.getfield 37, 3) := by decide +kernel
theorem dX2_allFittings_8 : decode cX2_allFittings 8 = .ok (.ior, 1) := by decide +kernel
theorem dX2_allFittings_9 : decode cX2_allFittings 9 = .ok (.ireturn, 1) := by decide +kernel
theorem dX2_knownAt_0 : decode cX2_knownAt 0 = .ok (.iconst 0, 1) := by decide +kernel
theorem dX2_knownAt_1 : decode cX2_knownAt 1 = .ok (.istore_n 2, 1) := by decide +kernel
theorem dX2_knownAt_2 : decode cX2_knownAt 2 = .ok (.iconst 0, 1) := by decide +kernel
theorem dX2_knownAt_3 : decode cX2_knownAt 3 = .ok (.istore_n 3, 1) := by decide +kernel
theorem dX2_knownAt_4 : decode cX2_knownAt 4 = .ok (.iload_n 3, 1) := by decide +kernel
theorem dX2_knownAt_5 : decode cX2_knownAt 5 = .ok (.aload_n 0, 1) := by decide +kernel
theorem dX2_knownAt_6 : decode cX2_knownAt 6 = .ok (.getfield 30, 3) := by decide +kernel
theorem dX2_knownAt_9 : decode cX2_knownAt 9 = .ok (.if_icmp .ge 29, 3) := by decide +kernel
theorem dX2_knownAt_12 : decode cX2_knownAt 12 = .ok (.iload_n 2, 1) := by decide +kernel
theorem dX2_knownAt_13 : decode cX2_knownAt 13 = .ok (.aload_n 0, 1) := by decide +kernel
theorem dX2_knownAt_14 : decode cX2_knownAt 14 = .ok (.getfield 24, 3) := by decide +kernel
theorem dX2_knownAt_17 : decode cX2_knownAt 17 = .ok (.iload_n 3, 1) := by decide +kernel
theorem dX2_knownAt_18 : decode cX2_knownAt 18 = .ok (.iaload, 1) := by decide +kernel
theorem dX2_knownAt_19 : decode cX2_knownAt 19 = .ok (.iload_n 1, 1) := by decide +kernel
theorem dX2_knownAt_20 : decode cX2_knownAt 20 = .ok (.if_icmp .gt 9, 3) := by decide +kernel
theorem dX2_knownAt_23 : decode cX2_knownAt 23 = .ok (.iconst 1, 1) := by decide +kernel
theorem dX2_knownAt_24 : decode cX2_knownAt 24 = .ok (.iload_n 3, 1) := by decide +kernel
theorem dX2_knownAt_25 : decode cX2_knownAt 25 = .ok (.ishl, 1) := by decide +kernel
theorem dX2_knownAt_26 : decode cX2_knownAt 26 = .ok (.goto 4, 3) := by decide +kernel
theorem dX2_knownAt_29 : decode cX2_knownAt 29 = .ok (.iconst 0, 1) := by decide +kernel
theorem dX2_knownAt_30 : decode cX2_knownAt 30 = .ok (.ior, 1) := by decide +kernel
theorem dX2_knownAt_31 : decode cX2_knownAt 31 = .ok (.istore_n 2, 1) := by decide +kernel
theorem dX2_knownAt_32 : decode cX2_knownAt 32 = .ok (.iinc 3 1, 3) := by decide +kernel
theorem dX2_knownAt_35 : decode cX2_knownAt 35 = .ok (.goto (-31), 3) := by decide +kernel
theorem dX2_knownAt_38 : decode cX2_knownAt 38 = .ok (.iload_n 2, 1) := by decide +kernel
theorem dX2_knownAt_39 : decode cX2_knownAt 39 = .ok (.ireturn, 1) := by decide +kernel
theorem dX2_tellSource_0 : decode cX2_tellSource 0 = .ok (.aload_n 0, 1) := by decide +kernel
theorem dX2_tellSource_1 : decode cX2_tellSource 1 = .ok (.getfield 27, 3) := by decide +kernel
theorem dX2_tellSource_4 : decode cX2_tellSource 4 = .ok (.iload_n 2, 1) := by decide +kernel
theorem dX2_tellSource_5 : decode cX2_tellSource 5 = .ok (.iaload, 1) := by decide +kernel
theorem dX2_tellSource_6 : decode cX2_tellSource 6 = .ok (.istore 4, 2) := by decide +kernel
theorem dX2_tellSource_8 : decode cX2_tellSource 8 = .ok (.aload_n 0, 1) := by decide +kernel
theorem dX2_tellSource_9 : decode cX2_tellSource 9 = .ok (.getfield 27, 3) := by decide +kernel
theorem dX2_tellSource_12 : decode cX2_tellSource 12 = .ok (.iload_n 2, 1) := by decide +kernel
theorem dX2_tellSource_13 : decode cX2_tellSource 13 = .ok (.iload_n 3, 1) := by decide +kernel
theorem dX2_tellSource_14 : decode cX2_tellSource 14 = .ok (.ifCond .eq 12, 3) := by decide +kernel
theorem dX2_tellSource_17 : decode cX2_tellSource 17 = .ok (.iload 4, 2) := by decide +kernel
theorem dX2_tellSource_19 : decode cX2_tellSource 19 = .ok (.iconst 1, 1) := by decide +kernel
theorem dX2_tellSource_20 : decode cX2_tellSource 20 = .ok (.iload_n 1, 1) := by decide +kernel
theorem dX2_tellSource_21 : decode cX2_tellSource 21 = .ok (.ishl, 1) := by decide +kernel
theorem dX2_tellSource_22 : decode cX2_tellSource 22 = .ok (.ior, 1) := by decide +kernel
theorem dX2_tellSource_23 : decode cX2_tellSource 23 = .ok (.goto 11, 3) := by decide +kernel
theorem dX2_tellSource_26 : decode cX2_tellSource 26 = .ok (.iload 4, 2) := by decide +kernel
theorem dX2_tellSource_28 : decode cX2_tellSource 28 = .ok (.iconst 1, 1) := by decide +kernel
theorem dX2_tellSource_29 : decode cX2_tellSource 29 = .ok (.iload_n 1, 1) := by decide +kernel
theorem dX2_tellSource_30 : decode cX2_tellSource 30 = .ok (.ishl, 1) := by decide +kernel
theorem dX2_tellSource_31 : decode cX2_tellSource 31 = .ok (.iconst (-1), 1) := by decide +kernel
theorem dX2_tellSource_32 : decode cX2_tellSource 32 = .ok (.ixor, 1) := by decide +kernel
theorem dX2_tellSource_33 : decode cX2_tellSource 33 = .ok (.iand, 1) := by decide +kernel
theorem dX2_tellSource_34 : decode cX2_tellSource 34 = .ok (.iastore, 1) := by decide +kernel
theorem dX2_tellSource_35 : decode cX2_tellSource 35 = .ok (.aload_n 0, 1) := by decide +kernel
theorem dX2_tellSource_36 : decode cX2_tellSource 36 = .ok (.getfield 27, 3) := by decide +kernel
theorem dX2_tellSource_39 : decode cX2_tellSource 39 = .ok (.iload_n 2, 1) := by decide +kernel
theorem dX2_tellSource_40 : decode cX2_tellSource 40 = .ok (.iaload, 1) := by decide +kernel
theorem dX2_tellSource_41 : decode cX2_tellSource 41 = .ok (.iload 4, 2) := by decide +kernel
theorem dX2_tellSource_43 : decode cX2_tellSource 43 = .ok (.if_icmp .eq 7, 3) := by decide +kernel
theorem dX2_tellSource_46 : decode cX2_tellSource 46 = .ok (.iconst 1, 1) := by decide +kernel
theorem dX2_tellSource_47 : decode cX2_tellSource 47 = .ok (.goto 4, 3) := by decide +kernel
theorem dX2_tellSource_50 : decode cX2_tellSource 50 = .ok (.iconst 0, 1) := by decide +kernel
theorem dX2_tellSource_51 : decode cX2_tellSource 51 = .ok (.ireturn, 1) := by decide +kernel
theorem dX2_turnByHand_0 : decode cX2_turnByHand 0 = .ok (.aload_n 0, 1) := by decide +kernel
theorem dX2_turnByHand_1 : decode cX2_turnByHand 1 = .ok (.getfield 40, 3) := by decide +kernel
theorem dX2_turnByHand_4 : decode cX2_turnByHand 4 = .ok (.istore_n 3, 1) := by decide +kernel
theorem dX2_turnByHand_5 : decode cX2_turnByHand 5 = .ok (.aload_n 0, 1) := by decide +kernel
theorem dX2_turnByHand_6 : decode cX2_turnByHand 6 = .ok (.iload_n 2, 1) := by decide +kernel
theorem dX2_turnByHand_7 : decode cX2_turnByHand 7 = .ok (.ifCond .eq 11, 3) := by decide +kernel
theorem dX2_turnByHand_10 : decode cX2_turnByHand 10 = .ok (.iload_n 3, 1) := by decide +kernel
theorem dX2_turnByHand_11 : decode cX2_turnByHand 11 = .ok (.iconst 1, 1) := by decide +kernel
theorem dX2_turnByHand_12 : decode cX2_turnByHand 12 = .ok (.iload_n 1, 1) := by decide +kernel
theorem dX2_turnByHand_13 : decode cX2_turnByHand 13 = .ok (.ishl, 1) := by decide +kernel
theorem dX2_turnByHand_14 : decode cX2_turnByHand 14 = .ok (.ior, 1) := by decide +kernel
theorem dX2_turnByHand_15 : decode cX2_turnByHand 15 = .ok (.goto 10, 3) := by decide +kernel
theorem dX2_turnByHand_18 : decode cX2_turnByHand 18 = .ok (.iload_n 3, 1) := by decide +kernel
theorem dX2_turnByHand_19 : decode cX2_turnByHand 19 = .ok (.iconst 1, 1) := by decide +kernel
theorem dX2_turnByHand_20 : decode cX2_turnByHand 20 = .ok (.iload_n 1, 1) := by decide +kernel
theorem dX2_turnByHand_21 : decode cX2_turnByHand 21 = .ok (.ishl, 1) := by decide +kernel
theorem dX2_turnByHand_22 : decode cX2_turnByHand 22 = .ok (.iconst (-1), 1) := by decide +kernel
theorem dX2_turnByHand_23 : decode cX2_turnByHand 23 = .ok (.ixor, 1) := by decide +kernel
theorem dX2_turnByHand_24 : decode cX2_turnByHand 24 = .ok (.iand, 1) := by decide +kernel
theorem dX2_turnByHand_25 : decode cX2_turnByHand 25 = .ok (.putfield 40, 3) := by decide +kernel
theorem dX2_turnByHand_28 : decode cX2_turnByHand 28 = .ok (.aload_n 0, 1) := by decide +kernel
theorem dX2_turnByHand_29 : decode cX2_turnByHand 29 = .ok (.getfield 40, 3) := by decide +kernel
theorem dX2_turnByHand_32 : decode cX2_turnByHand 32 = .ok (.iload_n 3, 1) := by decide +kernel
theorem dX2_turnByHand_33 : decode cX2_turnByHand 33 = .ok (.if_icmp .eq 7, 3) := by decide +kernel
theorem dX2_turnByHand_36 : decode cX2_turnByHand 36 = .ok (.iconst 1, 1) := by decide +kernel
theorem dX2_turnByHand_37 : decode cX2_turnByHand 37 = .ok (.goto 4, 3) := by decide +kernel
theorem dX2_turnByHand_40 : decode cX2_turnByHand 40 = .ok (.iconst 0, 1) := by decide +kernel
theorem dX2_turnByHand_41 : decode cX2_turnByHand 41 = .ok (.ireturn, 1) := by decide +kernel
theorem dX2_stepOver_0 : decode cX2_stepOver 0 = .ok (.iload_n 1, 1) := by decide +kernel
theorem dX2_stepOver_1 : decode cX2_stepOver 1 = .ok (.istore_n 3, 1) := by decide +kernel
theorem dX2_stepOver_2 : decode cX2_stepOver 2 = .ok (.iconst 0, 1) := by decide +kernel
theorem dX2_stepOver_3 : decode cX2_stepOver 3 = .ok (.istore 4, 2) := by decide +kernel
theorem dX2_stepOver_5 : decode cX2_stepOver 5 = .ok (.iload 4, 2) := by decide +kernel
theorem dX2_stepOver_7 : decode cX2_stepOver 7 = .ok (.aload_n 0, 1) := by decide +kernel
theorem dX2_stepOver_8 : decode cX2_stepOver 8 = .ok (.getfield 30, 3) := by decide +kernel
theorem dX2_stepOver_11 : decode cX2_stepOver 11 = .ok (.if_icmp .ge 40, 3) := by decide +kernel
theorem dX2_stepOver_14 : decode cX2_stepOver 14 = .ok (.iload_n 2, 1) := by decide +kernel
theorem dX2_stepOver_15 : decode cX2_stepOver 15 = .ok (.iload 4, 2) := by decide +kernel
theorem dX2_stepOver_17 : decode cX2_stepOver 17 = .ok (.ishr, 1) := by decide +kernel
theorem dX2_stepOver_18 : decode cX2_stepOver 18 = .ok (.iconst 1, 1) := by decide +kernel
theorem dX2_stepOver_19 : decode cX2_stepOver 19 = .ok (.iand, 1) := by decide +kernel
theorem dX2_stepOver_20 : decode cX2_stepOver 20 = .ok (.ifCond .eq 25, 3) := by decide +kernel
theorem dX2_stepOver_23 : decode cX2_stepOver 23 = .ok (.aload_n 0, 1) := by decide +kernel
theorem dX2_stepOver_24 : decode cX2_stepOver 24 = .ok (.getfield 18, 3) := by decide +kernel
theorem dX2_stepOver_27 : decode cX2_stepOver 27 = .ok (.iload 4, 2) := by decide +kernel
theorem dX2_stepOver_29 : decode cX2_stepOver 29 = .ok (.iaload, 1) := by decide +kernel
theorem dX2_stepOver_30 : decode cX2_stepOver 30 = .ok (.iload_n 1, 1) := by decide +kernel
theorem dX2_stepOver_31 : decode cX2_stepOver 31 = .ok (.iand, 1) := by decide +kernel
theorem dX2_stepOver_32 : decode cX2_stepOver 32 = .ok (.ifCond .eq 13, 3) := by decide +kernel
theorem dX2_stepOver_35 : decode cX2_stepOver 35 = .ok (.iload_n 3, 1) := by decide +kernel
theorem dX2_stepOver_36 : decode cX2_stepOver 36 = .ok (.aload_n 0, 1) := by decide +kernel
theorem dX2_stepOver_37 : decode cX2_stepOver 37 = .ok (.getfield 18, 3) := by decide +kernel
theorem dX2_stepOver_40 : decode cX2_stepOver 40 = .ok (.iload 4, 2) := by decide +kernel
theorem dX2_stepOver_42 : decode cX2_stepOver 42 = .ok (.iaload, 1) := by decide +kernel
theorem dX2_stepOver_43 : decode cX2_stepOver 43 = .ok (.ior, 1) := by decide +kernel
theorem dX2_stepOver_44 : decode cX2_stepOver 44 = .ok (.istore_n 3, 1) := by decide +kernel
theorem dX2_stepOver_45 : decode cX2_stepOver 45 = .ok (.iinc 4 1, 3) := by decide +kernel
theorem dX2_stepOver_48 : decode cX2_stepOver 48 = .ok (.goto (-43), 3) := by decide +kernel
theorem dX2_stepOver_51 : decode cX2_stepOver 51 = .ok (.iload_n 3, 1) := by decide +kernel
theorem dX2_stepOver_52 : decode cX2_stepOver 52 = .ok (.ireturn, 1) := by decide +kernel
theorem dX2_spread_0 : decode cX2_spread 0 = .ok (.iload_n 1, 1) := by decide +kernel
theorem dX2_spread_1 : decode cX2_spread 1 = .ok (.istore_n 3, 1) := by decide +kernel
theorem dX2_spread_2 : decode cX2_spread 2 = .ok (.iconst 0, 1) := by decide +kernel
theorem dX2_spread_3 : decode cX2_spread 3 = .ok (.istore 4, 2) := by decide +kernel
theorem dX2_spread_5 : decode cX2_spread 5 = .ok (.iload 4, 2) := by decide +kernel
theorem dX2_spread_7 : decode cX2_spread 7 = .ok (.bipush 10, 2) := by decide +kernel
theorem dX2_spread_9 : decode cX2_spread 9 = .ok (.if_icmp .ge 70, 3) := by decide +kernel
theorem dX2_spread_12 : decode cX2_spread 12 = .ok (.iload_n 3, 1) := by decide +kernel
theorem dX2_spread_13 : decode cX2_spread 13 = .ok (.istore 5, 2) := by decide +kernel
theorem dX2_spread_15 : decode cX2_spread 15 = .ok (.iconst 0, 1) := by decide +kernel
theorem dX2_spread_16 : decode cX2_spread 16 = .ok (.istore 6, 2) := by decide +kernel
theorem dX2_spread_18 : decode cX2_spread 18 = .ok (.iload 6, 2) := by decide +kernel
theorem dX2_spread_20 : decode cX2_spread 20 = .ok (.aload_n 0, 1) := by decide +kernel
theorem dX2_spread_21 : decode cX2_spread 21 = .ok (.getfield 30, 3) := by decide +kernel
theorem dX2_spread_24 : decode cX2_spread 24 = .ok (.if_icmp .ge 40, 3) := by decide +kernel
theorem dX2_spread_27 : decode cX2_spread 27 = .ok (.iload_n 2, 1) := by decide +kernel
theorem dX2_spread_28 : decode cX2_spread 28 = .ok (.iload 6, 2) := by decide +kernel
theorem dX2_spread_30 : decode cX2_spread 30 = .ok (.ishr, 1) := by decide +kernel
theorem dX2_spread_31 : decode cX2_spread 31 = .ok (.iconst 1, 1) := by decide +kernel
theorem dX2_spread_32 : decode cX2_spread 32 = .ok (.iand, 1) := by decide +kernel
theorem dX2_spread_33 : decode cX2_spread 33 = .ok (.ifCond .eq 25, 3) := by decide +kernel
theorem dX2_spread_36 : decode cX2_spread 36 = .ok (.aload_n 0, 1) := by decide +kernel
theorem dX2_spread_37 : decode cX2_spread 37 = .ok (.getfield 18, 3) := by decide +kernel
theorem dX2_spread_40 : decode cX2_spread 40 = .ok (.iload 6, 2) := by decide +kernel
theorem dX2_spread_42 : decode cX2_spread 42 = .ok (.iaload, 1) := by decide +kernel
theorem dX2_spread_43 : decode cX2_spread 43 = .ok (.iload_n 3, 1) := by decide +kernel
theorem dX2_spread_44 : decode cX2_spread 44 = .ok (.iand, 1) := by decide +kernel
theorem dX2_spread_45 : decode cX2_spread 45 = .ok (.ifCond .eq 13, 3) := by decide +kernel
theorem dX2_spread_48 : decode cX2_spread 48 = .ok (.iload_n 3, 1) := by decide +kernel
theorem dX2_spread_49 : decode cX2_spread 49 = .ok (.aload_n 0, 1) := by decide +kernel
theorem dX2_spread_50 : decode cX2_spread 50 = .ok (.getfield 18, 3) := by decide +kernel
theorem dX2_spread_53 : decode cX2_spread 53 = .ok (.iload 6, 2) := by decide +kernel
theorem dX2_spread_55 : decode cX2_spread 55 = .ok (.iaload, 1) := by decide +kernel
theorem dX2_spread_56 : decode cX2_spread 56 = .ok (.ior, 1) := by decide +kernel
theorem dX2_spread_57 : decode cX2_spread 57 = .ok (.istore_n 3, 1) := by decide +kernel
theorem dX2_spread_58 : decode cX2_spread 58 = .ok (.iinc 6 1, 3) := by decide +kernel
theorem dX2_spread_61 : decode cX2_spread 61 = .ok (.goto (-43), 3) := by decide +kernel
theorem dX2_spread_64 : decode cX2_spread 64 = .ok (.iload_n 3, 1) := by decide +kernel
theorem dX2_spread_65 : decode cX2_spread 65 = .ok (.iload 5, 2) := by decide +kernel
theorem dX2_spread_67 : decode cX2_spread 67 = .ok (.if_icmp .ne 6, 3) := by decide +kernel
theorem dX2_spread_70 : decode cX2_spread 70 = .ok (.goto 9, 3) := by decide +kernel
theorem dX2_spread_73 : decode cX2_spread 73 = .ok (.iinc 4 1, 3) := by decide +kernel
theorem dX2_spread_76 : decode cX2_spread 76 = .ok (.goto (-71), 3) := by decide +kernel
theorem dX2_spread_79 : decode cX2_spread 79 = .ok (.iload_n 3, 1) := by decide +kernel
theorem dX2_spread_80 : decode cX2_spread 80 = .ok (.ireturn, 1) := by decide +kernel
theorem dX2_sourcesOf_0 : decode cX2_sourcesOf 0 = .ok (.iconst 0, 1) := by decide +kernel
theorem dX2_sourcesOf_1 : decode cX2_sourcesOf 1 = .ok (.istore_n 2, 1) := by decide +kernel
theorem dX2_sourcesOf_2 : decode cX2_sourcesOf 2 = .ok (.iconst 0, 1) := by decide +kernel
theorem dX2_sourcesOf_3 : decode cX2_sourcesOf 3 = .ok (.istore_n 3, 1) := by decide +kernel
theorem dX2_sourcesOf_4 : decode cX2_sourcesOf 4 = .ok (.iload_n 3, 1) := by decide +kernel
theorem dX2_sourcesOf_5 : decode cX2_sourcesOf 5 = .ok (.iconst 3, 1) := by decide +kernel
theorem dX2_sourcesOf_6 : decode cX2_sourcesOf 6 = .ok (.if_icmp .ge 30, 3) := by decide +kernel
theorem dX2_sourcesOf_9 : decode cX2_sourcesOf 9 = .ok (.iload_n 2, 1) := by decide +kernel
theorem dX2_sourcesOf_10 : decode cX2_sourcesOf 10 = .ok (.iload_n 1, 1) := by decide +kernel
theorem dX2_sourcesOf_11 : decode cX2_sourcesOf 11 = .ok (.iload_n 3, 1) := by decide +kernel
theorem dX2_sourcesOf_12 : decode cX2_sourcesOf 12 = .ok (.ishr, 1) := by decide +kernel
theorem dX2_sourcesOf_13 : decode cX2_sourcesOf 13 = .ok (.iconst 1, 1) := by decide +kernel
theorem dX2_sourcesOf_14 : decode cX2_sourcesOf 14 = .ok (.iand, 1) := by decide +kernel
theorem dX2_sourcesOf_15 : decode cX2_sourcesOf 15 = .ok (.ifCond .eq 12, 3) := by decide +kernel
theorem dX2_sourcesOf_18 : decode cX2_sourcesOf 18 = .ok (.aload_n 0, 1) := by decide +kernel
theorem dX2_sourcesOf_19 : decode cX2_sourcesOf 19 = .ok (.getfield 27, 3) := by decide +kernel
theorem dX2_sourcesOf_22 : decode cX2_sourcesOf 22 = .ok (.iload_n 3, 1) := by decide +kernel
theorem dX2_sourcesOf_23 : decode cX2_sourcesOf 23 = .ok (.iaload, 1) := by decide +kernel
theorem dX2_sourcesOf_24 : decode cX2_sourcesOf 24 = .ok (.goto 4, 3) := by decide +kernel
theorem dX2_sourcesOf_27 : decode cX2_sourcesOf 27 = .ok (.iconst 0, 1) := by decide +kernel
theorem dX2_sourcesOf_28 : decode cX2_sourcesOf 28 = .ok (.ior, 1) := by decide +kernel
theorem dX2_sourcesOf_29 : decode cX2_sourcesOf 29 = .ok (.istore_n 2, 1) := by decide +kernel
theorem dX2_sourcesOf_30 : decode cX2_sourcesOf 30 = .ok (.iinc 3 1, 3) := by decide +kernel
theorem dX2_sourcesOf_33 : decode cX2_sourcesOf 33 = .ok (.goto (-29), 3) := by decide +kernel
theorem dX2_sourcesOf_36 : decode cX2_sourcesOf 36 = .ok (.iload_n 2, 1) := by decide +kernel
theorem dX2_sourcesOf_37 : decode cX2_sourcesOf 37 = .ok (.ireturn, 1) := by decide +kernel
theorem dX2_isSafe_0 : decode cX2_isSafe 0 = .ok (.iload_n 3, 1) := by decide +kernel
theorem dX2_isSafe_1 : decode cX2_isSafe 1 = .ok (.iload_n 2, 1) := by decide +kernel
theorem dX2_isSafe_2 : decode cX2_isSafe 2 = .ok (.iconst (-1), 1) := by decide +kernel
theorem dX2_isSafe_3 : decode cX2_isSafe 3 = .ok (.ixor, 1) := by decide +kernel
theorem dX2_isSafe_4 : decode cX2_isSafe 4 = .ok (.iand, 1) := by decide +kernel
theorem dX2_isSafe_5 : decode cX2_isSafe 5 = .ok (.istore 5, 2) := by decide +kernel
theorem dX2_isSafe_7 : decode cX2_isSafe 7 = .ok (.aload_n 0, 1) := by decide +kernel
theorem dX2_isSafe_8 : decode cX2_isSafe 8 = .ok (.iconst 1, 1) := by decide +kernel
theorem dX2_isSafe_9 : decode cX2_isSafe 9 = .ok (.iload_n 1, 1) := by decide +kernel
theorem dX2_isSafe_10 : decode cX2_isSafe 10 = .ok (.ishl, 1) := by decide +kernel
theorem dX2_isSafe_11 : decode cX2_isSafe 11 = .ok (.iload 5, 2) := by decide +kernel
theorem dX2_isSafe_13 : decode cX2_isSafe 13 = .ok (.invokevirtual 47, 3) := by decide +kernel
theorem dX2_isSafe_16 : decode cX2_isSafe 16 = .ok (.istore 6, 2) := by decide +kernel
theorem dX2_isSafe_18 : decode cX2_isSafe 18 = .ok (.iload 6, 2) := by decide +kernel
theorem dX2_isSafe_20 : decode cX2_isSafe 20 = .ok (.aload_n 0, 1) := by decide +kernel
theorem dX2_isSafe_21 : decode cX2_isSafe 21 = .ok (.bipush 7, 2) := by decide +kernel
theorem dX2_isSafe_23 : decode cX2_isSafe 23 = .ok (.invokevirtual 51, 3) := by decide +kernel
theorem dX2_isSafe_26 : decode cX2_isSafe 26 = .ok (.iand, 1) := by decide +kernel
theorem dX2_isSafe_27 : decode cX2_isSafe 27 = .ok (.ifCond .eq 5, 3) := by decide +kernel
theorem dX2_isSafe_30 : decode cX2_isSafe 30 = .ok (.iconst 0, 1) := by decide +kernel
theorem dX2_isSafe_31 : decode cX2_isSafe 31 = .ok (.ireturn, 1) := by decide +kernel
theorem dX2_isSafe_32 : decode cX2_isSafe 32 = .ok (.iload 4, 2) := by decide +kernel
theorem dX2_isSafe_34 : decode cX2_isSafe 34 = .ok (.ifCond .ne 5, 3) := by decide +kernel
theorem dX2_isSafe_37 : decode cX2_isSafe 37 = .ok (.iconst 1, 1) := by decide +kernel
theorem dX2_isSafe_38 : decode cX2_isSafe 38 = .ok (.ireturn, 1) := by decide +kernel
theorem dX2_isSafe_39 : decode cX2_isSafe 39 = .ok (.aload_n 0, 1) := by decide +kernel
theorem dX2_isSafe_40 : decode cX2_isSafe 40 = .ok (.iload 6, 2) := by decide +kernel
theorem dX2_isSafe_42 : decode cX2_isSafe 42 = .ok (.iload_n 3, 1) := by decide +kernel
theorem dX2_isSafe_43 : decode cX2_isSafe 43 = .ok (.iload_n 2, 1) := by decide +kernel
theorem dX2_isSafe_44 : decode cX2_isSafe 44 = .ok (.iand, 1) := by decide +kernel
theorem dX2_isSafe_45 : decode cX2_isSafe 45 = .ok (.aload_n 0, 1) := by decide +kernel
theorem dX2_isSafe_46 : decode cX2_isSafe 46 = .ok (.getfield 34, 3) := by decide +kernel
theorem dX2_isSafe_49 : decode cX2_isSafe 49 = .ok (.iand, 1) := by decide +kernel
theorem dX2_isSafe_50 : decode cX2_isSafe 50 = .ok (.invokevirtual 55, 3) := by decide +kernel
theorem dX2_isSafe_53 : decode cX2_isSafe 53 = .ok (.istore 7, 2) := by decide +kernel
theorem dX2_isSafe_55 : decode cX2_isSafe 55 = .ok (.aload_n 0, 1) := by decide +kernel
theorem dX2_isSafe_56 : decode cX2_isSafe 56 = .ok (.iload 7, 2) := by decide +kernel
theorem dX2_isSafe_58 : decode cX2_isSafe 58 = .ok (.iload 5, 2) := by decide +kernel
theorem dX2_isSafe_60 : decode cX2_isSafe 60 = .ok (.invokevirtual 47, 3) := by decide +kernel
theorem dX2_isSafe_63 : decode cX2_isSafe 63 = .ok (.aload_n 0, 1) := by decide +kernel
theorem dX2_isSafe_64 : decode cX2_isSafe 64 = .ok (.iload 4, 2) := by decide +kernel
theorem dX2_isSafe_66 : decode cX2_isSafe 66 = .ok (.invokevirtual 51, 3) := by decide +kernel
theorem dX2_isSafe_69 : decode cX2_isSafe 69 = .ok (.iand, 1) := by decide +kernel
theorem dX2_isSafe_70 : decode cX2_isSafe 70 = .ok (.ifCond .ne 7, 3) := by decide +kernel
theorem dX2_isSafe_73 : decode cX2_isSafe 73 = .ok (.iconst 1, 1) := by decide +kernel
theorem dX2_isSafe_74 : decode cX2_isSafe 74 = .ok (.goto 4, 3) := by decide +kernel
theorem dX2_isSafe_77 : decode cX2_isSafe 77 = .ok (.iconst 0, 1) := by decide +kernel
theorem dX2_isSafe_78 : decode cX2_isSafe 78 = .ok (.ireturn, 1) := by decide +kernel
theorem dX2_fewestBarriers_0 : decode cX2_fewestBarriers 0 = .ok (.aload_n 0, 1) := by decide +kernel
theorem dX2_fewestBarriers_1 : decode cX2_fewestBarriers 1 = .ok (.invokevirtual 58, 3) := by decide +kernel
theorem dX2_fewestBarriers_4 : decode cX2_fewestBarriers 4 = .ok (.iload_n 3, 1) := by decide +kernel
theorem dX2_fewestBarriers_5 : decode cX2_fewestBarriers 5 = .ok (.iconst (-1), 1) := by decide +kernel
theorem dX2_fewestBarriers_6 : decode cX2_fewestBarriers 6 = .ok (.ixor, 1) := by decide +kernel
theorem dX2_fewestBarriers_7 : decode cX2_fewestBarriers 7 = .ok (.iand, 1) := by decide +kernel
theorem dX2_fewestBarriers_8 : decode cX2_fewestBarriers 8 = .ok (.istore 4, 2) := by decide +kernel
theorem dX2_fewestBarriers_10 : decode cX2_fewestBarriers 10 = .ok (.iconst 0, 1) := by decide +kernel
theorem dX2_fewestBarriers_11 : decode cX2_fewestBarriers 11 = .ok (.istore 5, 2) := by decide +kernel
theorem dX2_fewestBarriers_13 : decode cX2_fewestBarriers 13 = .ok (.aload_n 0, 1) := by decide +kernel
theorem dX2_fewestBarriers_14 : decode cX2_fewestBarriers 14 = .ok (.iconst 1, 1) := by decide +kernel
theorem dX2_fewestBarriers_15 : decode cX2_fewestBarriers 15 = .ok (.iload_n 1, 1) := by decide +kernel
theorem dX2_fewestBarriers_16 : decode cX2_fewestBarriers 16 = .ok (.ishl, 1) := by decide +kernel
theorem dX2_fewestBarriers_17 : decode cX2_fewestBarriers 17 = .ok (.iload 4, 2) := by decide +kernel
theorem dX2_fewestBarriers_19 : decode cX2_fewestBarriers 19 = .ok (.invokevirtual 47, 3) := by decide +kernel
theorem dX2_fewestBarriers_22 : decode cX2_fewestBarriers 22 = .ok (.istore 6, 2) := by decide +kernel
theorem dX2_fewestBarriers_24 : decode cX2_fewestBarriers 24 = .ok (.iconst 0, 1) := by decide +kernel
theorem dX2_fewestBarriers_25 : decode cX2_fewestBarriers 25 = .ok (.istore 7, 2) := by decide +kernel
theorem dX2_fewestBarriers_27 : decode cX2_fewestBarriers 27 = .ok (.iload 7, 2) := by decide +kernel
theorem dX2_fewestBarriers_29 : decode cX2_fewestBarriers 29 = .ok (.bipush 18, 2) := by decide +kernel
theorem dX2_fewestBarriers_31 : decode cX2_fewestBarriers 31 = .ok (.if_icmp .gt 62, 3) := by decide +kernel
theorem dX2_fewestBarriers_34 : decode cX2_fewestBarriers 34 = .ok (.iload 6, 2) := by decide +kernel
theorem dX2_fewestBarriers_36 : decode cX2_fewestBarriers 36 = .ok (.iload_n 2, 1) := by decide +kernel
theorem dX2_fewestBarriers_37 : decode cX2_fewestBarriers 37 = .ok (.ishr, 1) := by decide +kernel
theorem dX2_fewestBarriers_38 : decode cX2_fewestBarriers 38 = .ok (.iconst 1, 1) := by decide +kernel
theorem dX2_fewestBarriers_39 : decode cX2_fewestBarriers 39 = .ok (.iand, 1) := by decide +kernel
theorem dX2_fewestBarriers_40 : decode cX2_fewestBarriers 40 = .ok (.ifCond .eq 6, 3) := by decide +kernel
theorem dX2_fewestBarriers_43 : decode cX2_fewestBarriers 43 = .ok (.iload 7, 2) := by decide +kernel
theorem dX2_fewestBarriers_45 : decode cX2_fewestBarriers 45 = .ok (.ireturn, 1) := by decide +kernel
theorem dX2_fewestBarriers_46 : decode cX2_fewestBarriers 46 = .ok (.aload_n 0, 1) := by decide +kernel
theorem dX2_fewestBarriers_47 : decode cX2_fewestBarriers 47 = .ok (.iload 6, 2) := by decide +kernel
theorem dX2_fewestBarriers_49 : decode cX2_fewestBarriers 49 = .ok (.iload_n 3, 1) := by decide +kernel
theorem dX2_fewestBarriers_50 : decode cX2_fewestBarriers 50 = .ok (.aload_n 0, 1) := by decide +kernel
theorem dX2_fewestBarriers_51 : decode cX2_fewestBarriers 51 = .ok (.getfield 34, 3) := by decide +kernel
theorem dX2_fewestBarriers_54 : decode cX2_fewestBarriers 54 = .ok (.iand, 1) := by decide +kernel
theorem dX2_fewestBarriers_55 : decode cX2_fewestBarriers 55 = .ok (.invokevirtual 55, 3) := by decide +kernel
theorem dX2_fewestBarriers_58 : decode cX2_fewestBarriers 58 = .ok (.aload_n 0, 1) := by decide +kernel
theorem dX2_fewestBarriers_59 : decode cX2_fewestBarriers 59 = .ok (.iload 5, 2) := by decide +kernel
theorem dX2_fewestBarriers_61 : decode cX2_fewestBarriers 61 = .ok (.iload_n 3, 1) := by decide +kernel
theorem dX2_fewestBarriers_62 : decode cX2_fewestBarriers 62 = .ok (.aload_n 0, 1) := by decide +kernel
theorem dX2_fewestBarriers_63 : decode cX2_fewestBarriers 63 = .ok (.getfield 37, 3) := by decide +kernel
theorem dX2_fewestBarriers_66 : decode cX2_fewestBarriers 66 = .ok (.iand, 1) := by decide +kernel
theorem dX2_fewestBarriers_67 : decode cX2_fewestBarriers 67 = .ok (.invokevirtual 55, 3) := by decide +kernel
theorem dX2_fewestBarriers_70 : decode cX2_fewestBarriers 70 = .ok (.ior, 1) := by decide +kernel
theorem dX2_fewestBarriers_71 : decode cX2_fewestBarriers 71 = .ok (.istore 8, 2) := by decide +kernel
theorem dX2_fewestBarriers_73 : decode cX2_fewestBarriers 73 = .ok (.iload 6, 2) := by decide +kernel
theorem dX2_fewestBarriers_75 : decode cX2_fewestBarriers 75 = .ok (.istore 5, 2) := by decide +kernel
theorem dX2_fewestBarriers_77 : decode cX2_fewestBarriers 77 = .ok (.aload_n 0, 1) := by decide +kernel
theorem dX2_fewestBarriers_78 : decode cX2_fewestBarriers 78 = .ok (.iload 8, 2) := by decide +kernel
theorem dX2_fewestBarriers_80 : decode cX2_fewestBarriers 80 = .ok (.iload 4, 2) := by decide +kernel
theorem dX2_fewestBarriers_82 : decode cX2_fewestBarriers 82 = .ok (.invokevirtual 47, 3) := by decide +kernel
theorem dX2_fewestBarriers_85 : decode cX2_fewestBarriers 85 = .ok (.istore 6, 2) := by decide +kernel
theorem dX2_fewestBarriers_87 : decode cX2_fewestBarriers 87 = .ok (.iinc 7 1, 3) := by decide +kernel
theorem dX2_fewestBarriers_90 : decode cX2_fewestBarriers 90 = .ok (.goto (-63), 3) := by decide +kernel
theorem dX2_fewestBarriers_93 : decode cX2_fewestBarriers 93 = .ok (.bipush (-3), 2) := by decide +kernel
theorem dX2_fewestBarriers_95 : decode cX2_fewestBarriers 95 = .ok (.ireturn, 1) := by decide +kernel
theorem dX2_pipesApart_0 : decode cX2_pipesApart 0 = .ok (.iconst 1, 1) := by decide +kernel
theorem dX2_pipesApart_1 : decode cX2_pipesApart 1 = .ok (.iload_n 1, 1) := by decide +kernel
theorem dX2_pipesApart_2 : decode cX2_pipesApart 2 = .ok (.ishl, 1) := by decide +kernel
theorem dX2_pipesApart_3 : decode cX2_pipesApart 3 = .ok (.istore_n 3, 1) := by decide +kernel
theorem dX2_pipesApart_4 : decode cX2_pipesApart 4 = .ok (.iconst 0, 1) := by decide +kernel
theorem dX2_pipesApart_5 : decode cX2_pipesApart 5 = .ok (.istore 4, 2) := by decide +kernel
theorem dX2_pipesApart_7 : decode cX2_pipesApart 7 = .ok (.iload 4, 2) := by decide +kernel
theorem dX2_pipesApart_9 : decode cX2_pipesApart 9 = .ok (.bipush 10, 2) := by decide +kernel
theorem dX2_pipesApart_11 : decode cX2_pipesApart 11 = .ok (.if_icmp .ge 30, 3) := by decide +kernel
theorem dX2_pipesApart_14 : decode cX2_pipesApart 14 = .ok (.iload_n 3, 1) := by decide +kernel
theorem dX2_pipesApart_15 : decode cX2_pipesApart 15 = .ok (.iload_n 2, 1) := by decide +kernel
theorem dX2_pipesApart_16 : decode cX2_pipesApart 16 = .ok (.ishr, 1) := by decide +kernel
theorem dX2_pipesApart_17 : decode cX2_pipesApart 17 = .ok (.iconst 1, 1) := by decide +kernel
theorem dX2_pipesApart_18 : decode cX2_pipesApart 18 = .ok (.iand, 1) := by decide +kernel
theorem dX2_pipesApart_19 : decode cX2_pipesApart 19 = .ok (.ifCond .eq 6, 3) := by decide +kernel
theorem dX2_pipesApart_22 : decode cX2_pipesApart 22 = .ok (.iload 4, 2) := by decide +kernel
theorem dX2_pipesApart_24 : decode cX2_pipesApart 24 = .ok (.ireturn, 1) := by decide +kernel
theorem dX2_pipesApart_25 : decode cX2_pipesApart 25 = .ok (.aload_n 0, 1) := by decide +kernel
theorem dX2_pipesApart_26 : decode cX2_pipesApart 26 = .ok (.iload_n 3, 1) := by decide +kernel
theorem dX2_pipesApart_27 : decode cX2_pipesApart 27 = .ok (.aload_n 0, 1) := by decide +kernel
theorem dX2_pipesApart_28 : decode cX2_pipesApart 28 = .ok (.invokevirtual 58, 3) := by decide +kernel
theorem dX2_pipesApart_31 : decode cX2_pipesApart 31 = .ok (.invokevirtual 55, 3) := by decide +kernel
theorem dX2_pipesApart_34 : decode cX2_pipesApart 34 = .ok (.istore_n 3, 1) := by decide +kernel
theorem dX2_pipesApart_35 : decode cX2_pipesApart 35 = .ok (.iinc 4 1, 3) := by decide +kernel
theorem dX2_pipesApart_38 : decode cX2_pipesApart 38 = .ok (.goto (-31), 3) := by decide +kernel
theorem dX2_pipesApart_41 : decode cX2_pipesApart 41 = .ok (.bipush (-3), 2) := by decide +kernel
theorem dX2_pipesApart_43 : decode cX2_pipesApart 43 = .ok (.ireturn, 1) := by decide +kernel
theorem dX2_hoursOf_0 : decode cX2_hoursOf 0 = .ok (.iconst 1, 1) := by decide +kernel
theorem dX2_hoursOf_1 : decode cX2_hoursOf 1 = .ok (.iload_n 1, 1) := by decide +kernel
theorem dX2_hoursOf_2 : decode cX2_hoursOf 2 = .ok (.aload_n 0, 1) := by decide +kernel
theorem dX2_hoursOf_3 : decode cX2_hoursOf 3 = .ok (.getfield 34, 3) := by decide +kernel
theorem dX2_hoursOf_6 : decode cX2_hoursOf 6 = .ok (.iand, 1) := by decide +kernel
theorem dX2_hoursOf_7 : decode cX2_hoursOf 7 = .ok (.invokestatic 62, 3) := by decide +kernel
theorem dX2_hoursOf_10 : decode cX2_hoursOf 10 = .ok (.imul, 1) := by decide +kernel
theorem dX2_hoursOf_11 : decode cX2_hoursOf 11 = .ok (.iconst 3, 1) := by decide +kernel
theorem dX2_hoursOf_12 : decode cX2_hoursOf 12 = .ok (.iload_n 1, 1) := by decide +kernel
theorem dX2_hoursOf_13 : decode cX2_hoursOf 13 = .ok (.aload_n 0, 1) := by decide +kernel
theorem dX2_hoursOf_14 : decode cX2_hoursOf 14 = .ok (.getfield 37, 3) := by decide +kernel
theorem dX2_hoursOf_17 : decode cX2_hoursOf 17 = .ok (.iand, 1) := by decide +kernel
theorem dX2_hoursOf_18 : decode cX2_hoursOf 18 = .ok (.invokestatic 62, 3) := by decide +kernel
theorem dX2_hoursOf_21 : decode cX2_hoursOf 21 = .ok (.imul, 1) := by decide +kernel
theorem dX2_hoursOf_22 : decode cX2_hoursOf 22 = .ok (.iadd, 1) := by decide +kernel
theorem dX2_hoursOf_23 : decode cX2_hoursOf 23 = .ok (.ireturn, 1) := by decide +kernel
theorem dX2_leastSetFor_0 : decode cX2_leastSetFor 0 = .ok (.aload_n 0, 1) := by decide +kernel
theorem dX2_leastSetFor_1 : decode cX2_leastSetFor 1 = .ok (.iload_n 1, 1) := by decide +kernel
theorem dX2_leastSetFor_2 : decode cX2_leastSetFor 2 = .ok (.iconst 0, 1) := by decide +kernel
theorem dX2_leastSetFor_3 : decode cX2_leastSetFor 3 = .ok (.aload_n 0, 1) := by decide +kernel
theorem dX2_leastSetFor_4 : decode cX2_leastSetFor 4 = .ok (.invokevirtual 58, 3) := by decide +kernel
theorem dX2_leastSetFor_7 : decode cX2_leastSetFor 7 = .ok (.iload_n 2, 1) := by decide +kernel
theorem dX2_leastSetFor_8 : decode cX2_leastSetFor 8 = .ok (.invokevirtual 67, 3) := by decide +kernel
theorem dX2_leastSetFor_11 : decode cX2_leastSetFor 11 = .ok (.ifCond .eq 5, 3) := by decide +kernel
theorem dX2_leastSetFor_14 : decode cX2_leastSetFor 14 = .ok (.iconst 0, 1) := by decide +kernel
theorem dX2_leastSetFor_15 : decode cX2_leastSetFor 15 = .ok (.ireturn, 1) := by decide +kernel
theorem dX2_leastSetFor_16 : decode cX2_leastSetFor 16 = .ok (.aload_n 0, 1) := by decide +kernel
theorem dX2_leastSetFor_17 : decode cX2_leastSetFor 17 = .ok (.iload_n 1, 1) := by decide +kernel
theorem dX2_leastSetFor_18 : decode cX2_leastSetFor 18 = .ok (.aload_n 0, 1) := by decide +kernel
theorem dX2_leastSetFor_19 : decode cX2_leastSetFor 19 = .ok (.invokevirtual 71, 3) := by decide +kernel
theorem dX2_leastSetFor_22 : decode cX2_leastSetFor 22 = .ok (.aload_n 0, 1) := by decide +kernel
theorem dX2_leastSetFor_23 : decode cX2_leastSetFor 23 = .ok (.invokevirtual 58, 3) := by decide +kernel
theorem dX2_leastSetFor_26 : decode cX2_leastSetFor 26 = .ok (.iload_n 2, 1) := by decide +kernel
theorem dX2_leastSetFor_27 : decode cX2_leastSetFor 27 = .ok (.invokevirtual 67, 3) := by decide +kernel
theorem dX2_leastSetFor_30 : decode cX2_leastSetFor 30 = .ok (.ifCond .ne 6, 3) := by decide +kernel
theorem dX2_leastSetFor_33 : decode cX2_leastSetFor 33 = .ok (.bipush (-3), 2) := by decide +kernel
theorem dX2_leastSetFor_35 : decode cX2_leastSetFor 35 = .ok (.ireturn, 1) := by decide +kernel
theorem dX2_leastSetFor_36 : decode cX2_leastSetFor 36 = .ok (.aload_n 0, 1) := by decide +kernel
theorem dX2_leastSetFor_37 : decode cX2_leastSetFor 37 = .ok (.iload_n 1, 1) := by decide +kernel
theorem dX2_leastSetFor_38 : decode cX2_leastSetFor 38 = .ok (.iload_n 2, 1) := by decide +kernel
theorem dX2_leastSetFor_39 : decode cX2_leastSetFor 39 = .ok (.iconst 0, 1) := by decide +kernel
theorem dX2_leastSetFor_40 : decode cX2_leastSetFor 40 = .ok (.iconst 0, 1) := by decide +kernel
theorem dX2_leastSetFor_41 : decode cX2_leastSetFor 41 = .ok (.aload_n 0, 1) := by decide +kernel
theorem dX2_leastSetFor_42 : decode cX2_leastSetFor 42 = .ok (.iload_n 1, 1) := by decide +kernel
theorem dX2_leastSetFor_43 : decode cX2_leastSetFor 43 = .ok (.iload_n 2, 1) := by decide +kernel
theorem dX2_leastSetFor_44 : decode cX2_leastSetFor 44 = .ok (.invokevirtual 74, 3) := by decide +kernel
theorem dX2_leastSetFor_47 : decode cX2_leastSetFor 47 = .ok (.invokestatic 77, 3) := by decide +kernel
theorem dX2_leastSetFor_50 : decode cX2_leastSetFor 50 = .ok (.ireturn, 1) := by decide +kernel
theorem dX2_thinned_0 : decode cX2_thinned 0 = .ok (.aload_n 0, 1) := by decide +kernel
theorem dX2_thinned_1 : decode cX2_thinned 1 = .ok (.invokevirtual 71, 3) := by decide +kernel
theorem dX2_thinned_4 : decode cX2_thinned 4 = .ok (.istore_n 3, 1) := by decide +kernel
theorem dX2_thinned_5 : decode cX2_thinned 5 = .ok (.aload_n 0, 1) := by decide +kernel
theorem dX2_thinned_6 : decode cX2_thinned 6 = .ok (.getfield 30, 3) := by decide +kernel
theorem dX2_thinned_9 : decode cX2_thinned 9 = .ok (.iconst 1, 1) := by decide +kernel
theorem dX2_thinned_10 : decode cX2_thinned 10 = .ok (.isub, 1) := by decide +kernel
theorem dX2_thinned_11 : decode cX2_thinned 11 = .ok (.istore 4, 2) := by decide +kernel
theorem dX2_thinned_13 : decode cX2_thinned 13 = .ok (.iload 4, 2) := by decide +kernel
theorem dX2_thinned_15 : decode cX2_thinned 15 = .ok (.ifCond .lt 43, 3) := by decide +kernel
theorem dX2_thinned_18 : decode cX2_thinned 18 = .ok (.iload_n 3, 1) := by decide +kernel
theorem dX2_thinned_19 : decode cX2_thinned 19 = .ok (.iconst 1, 1) := by decide +kernel
theorem dX2_thinned_20 : decode cX2_thinned 20 = .ok (.iload 4, 2) := by decide +kernel
theorem dX2_thinned_22 : decode cX2_thinned 22 = .ok (.ishl, 1) := by decide +kernel
theorem dX2_thinned_23 : decode cX2_thinned 23 = .ok (.iconst (-1), 1) := by decide +kernel
theorem dX2_thinned_24 : decode cX2_thinned 24 = .ok (.ixor, 1) := by decide +kernel
theorem dX2_thinned_25 : decode cX2_thinned 25 = .ok (.iand, 1) := by decide +kernel
theorem dX2_thinned_26 : decode cX2_thinned 26 = .ok (.istore 5, 2) := by decide +kernel
theorem dX2_thinned_28 : decode cX2_thinned 28 = .ok (.iload 5, 2) := by decide +kernel
theorem dX2_thinned_30 : decode cX2_thinned 30 = .ok (.iload_n 3, 1) := by decide +kernel
theorem dX2_thinned_31 : decode cX2_thinned 31 = .ok (.if_icmp .eq 21, 3) := by decide +kernel
theorem dX2_thinned_34 : decode cX2_thinned 34 = .ok (.aload_n 0, 1) := by decide +kernel
theorem dX2_thinned_35 : decode cX2_thinned 35 = .ok (.iload_n 1, 1) := by decide +kernel
theorem dX2_thinned_36 : decode cX2_thinned 36 = .ok (.iload 5, 2) := by decide +kernel
theorem dX2_thinned_38 : decode cX2_thinned 38 = .ok (.aload_n 0, 1) := by decide +kernel
theorem dX2_thinned_39 : decode cX2_thinned 39 = .ok (.invokevirtual 58, 3) := by decide +kernel
theorem dX2_thinned_42 : decode cX2_thinned 42 = .ok (.iload_n 2, 1) := by decide +kernel
theorem dX2_thinned_43 : decode cX2_thinned 43 = .ok (.invokevirtual 67, 3) := by decide +kernel
theorem dX2_thinned_46 : decode cX2_thinned 46 = .ok (.ifCond .eq 6, 3) := by decide +kernel
theorem dX2_thinned_49 : decode cX2_thinned 49 = .ok (.iload 5, 2) := by decide +kernel
theorem dX2_thinned_51 : decode cX2_thinned 51 = .ok (.istore_n 3, 1) := by decide +kernel
theorem dX2_thinned_52 : decode cX2_thinned 52 = .ok (.iinc 4 (-1), 3) := by decide +kernel
theorem dX2_thinned_55 : decode cX2_thinned 55 = .ok (.goto (-42), 3) := by decide +kernel
theorem dX2_thinned_58 : decode cX2_thinned 58 = .ok (.iload_n 3, 1) := by decide +kernel
theorem dX2_thinned_59 : decode cX2_thinned 59 = .ok (.ireturn, 1) := by decide +kernel
theorem dX2_leastSetFrom_0 : decode cX2_leastSetFrom 0 = .ok (.iload 5, 2) := by decide +kernel
theorem dX2_leastSetFrom_2 : decode cX2_leastSetFrom 2 = .ok (.istore 6, 2) := by decide +kernel
theorem dX2_leastSetFrom_4 : decode cX2_leastSetFrom 4 = .ok (.iload 4, 2) := by decide +kernel
theorem dX2_leastSetFrom_6 : decode cX2_leastSetFrom 6 = .ok (.istore 7, 2) := by decide +kernel
theorem dX2_leastSetFrom_8 : decode cX2_leastSetFrom 8 = .ok (.iload 7, 2) := by decide +kernel
theorem dX2_leastSetFrom_10 : decode cX2_leastSetFrom 10 = .ok (.aload_n 0, 1) := by decide +kernel
theorem dX2_leastSetFrom_11 : decode cX2_leastSetFrom 11 = .ok (.getfield 30, 3) := by decide +kernel
theorem dX2_leastSetFrom_14 : decode cX2_leastSetFrom 14 = .ok (.if_icmp .ge 153, 3) := by decide +kernel
theorem dX2_leastSetFrom_17 : decode cX2_leastSetFrom 17 = .ok (.aload_n 0, 1) := by decide +kernel
theorem dX2_leastSetFrom_18 : decode cX2_leastSetFrom 18 = .ok (.iload_n 3, 1) := by decide +kernel
theorem dX2_leastSetFrom_19 : decode cX2_leastSetFrom 19 = .ok (.invokevirtual 81, 3) := by decide +kernel
theorem dX2_leastSetFrom_22 : decode cX2_leastSetFrom 22 = .ok (.aload_n 0, 1) := by decide +kernel
theorem dX2_leastSetFrom_23 : decode cX2_leastSetFrom 23 = .ok (.iload 6, 2) := by decide +kernel
theorem dX2_leastSetFrom_25 : decode cX2_leastSetFrom 25 = .ok (.invokevirtual 81, 3) := by decide +kernel
theorem dX2_leastSetFrom_28 : decode cX2_leastSetFrom 28 = .ok (.if_icmp .ge 139, 3) := by decide +kernel
theorem dX2_leastSetFrom_31 : decode cX2_leastSetFrom 31 = .ok (.iload_n 3, 1) := by decide +kernel
theorem dX2_leastSetFrom_32 : decode cX2_leastSetFrom 32 = .ok (.iconst 1, 1) := by decide +kernel
theorem dX2_leastSetFrom_33 : decode cX2_leastSetFrom 33 = .ok (.iload 7, 2) := by decide +kernel
theorem dX2_leastSetFrom_35 : decode cX2_leastSetFrom 35 = .ok (.ishl, 1) := by decide +kernel
theorem dX2_leastSetFrom_36 : decode cX2_leastSetFrom 36 = .ok (.aload_n 0, 1) := by decide +kernel
theorem dX2_leastSetFrom_37 : decode cX2_leastSetFrom 37 = .ok (.invokevirtual 71, 3) := by decide +kernel
theorem dX2_leastSetFrom_40 : decode cX2_leastSetFrom 40 = .ok (.iand, 1) := by decide +kernel
theorem dX2_leastSetFrom_41 : decode cX2_leastSetFrom 41 = .ok (.ior, 1) := by decide +kernel
theorem dX2_leastSetFrom_42 : decode cX2_leastSetFrom 42 = .ok (.istore 8, 2) := by decide +kernel
theorem dX2_leastSetFrom_44 : decode cX2_leastSetFrom 44 = .ok (.aload_n 0, 1) := by decide +kernel
theorem dX2_leastSetFrom_45 : decode cX2_leastSetFrom 45 = .ok (.iload 6, 2) := by decide +kernel
theorem dX2_leastSetFrom_47 : decode cX2_leastSetFrom 47 = .ok (.invokevirtual 81, 3) := by decide +kernel
theorem dX2_leastSetFrom_50 : decode cX2_leastSetFrom 50 = .ok (.aload_n 0, 1) := by decide +kernel
theorem dX2_leastSetFrom_51 : decode cX2_leastSetFrom 51 = .ok (.iload 8, 2) := by decide +kernel
theorem dX2_leastSetFrom_53 : decode cX2_leastSetFrom 53 = .ok (.invokevirtual 81, 3) := by decide +kernel
theorem dX2_leastSetFrom_56 : decode cX2_leastSetFrom 56 = .ok (.isub, 1) := by decide +kernel
theorem dX2_leastSetFrom_57 : decode cX2_leastSetFrom 57 = .ok (.istore 9, 2) := by decide +kernel
theorem dX2_leastSetFrom_59 : decode cX2_leastSetFrom 59 = .ok (.iload 8, 2) := by decide +kernel
theorem dX2_leastSetFrom_61 : decode cX2_leastSetFrom 61 = .ok (.iload_n 3, 1) := by decide +kernel
theorem dX2_leastSetFrom_62 : decode cX2_leastSetFrom 62 = .ok (.if_icmp .eq 67, 3) := by decide +kernel
theorem dX2_leastSetFrom_65 : decode cX2_leastSetFrom 65 = .ok (.iload 9, 2) := by decide +kernel
theorem dX2_leastSetFrom_67 : decode cX2_leastSetFrom 67 = .ok (.ifCond .lt 62, 3) := by decide +kernel
theorem dX2_leastSetFrom_70 : decode cX2_leastSetFrom 70 = .ok (.aload_n 0, 1) := by decide +kernel
theorem dX2_leastSetFrom_71 : decode cX2_leastSetFrom 71 = .ok (.iload_n 1, 1) := by decide +kernel
theorem dX2_leastSetFrom_72 : decode cX2_leastSetFrom 72 = .ok (.iload 8, 2) := by decide +kernel
theorem dX2_leastSetFrom_74 : decode cX2_leastSetFrom 74 = .ok (.aload_n 0, 1) := by decide +kernel
theorem dX2_leastSetFrom_75 : decode cX2_leastSetFrom 75 = .ok (.invokevirtual 58, 3) := by decide +kernel
theorem dX2_leastSetFrom_78 : decode cX2_leastSetFrom 78 = .ok (.iload_n 2, 1) := by decide +kernel
theorem dX2_leastSetFrom_79 : decode cX2_leastSetFrom 79 = .ok (.invokevirtual 67, 3) := by decide +kernel
theorem dX2_leastSetFrom_82 : decode cX2_leastSetFrom 82 = .ok (.ifCond .eq 26, 3) := by decide +kernel
theorem dX2_leastSetFrom_85 : decode cX2_leastSetFrom 85 = .ok (.aload_n 0, 1) := by decide +kernel
theorem dX2_leastSetFrom_86 : decode cX2_leastSetFrom 86 = .ok (.iload 8, 2) := by decide +kernel
theorem dX2_leastSetFrom_88 : decode cX2_leastSetFrom 88 = .ok (.iload 6, 2) := by decide +kernel
theorem dX2_leastSetFrom_90 : decode cX2_leastSetFrom 90 = .ok (.invokevirtual 84, 3) := by decide +kernel
theorem dX2_leastSetFrom_93 : decode cX2_leastSetFrom 93 = .ok (.ifCond .eq 8, 3) := by decide +kernel
theorem dX2_leastSetFrom_96 : decode cX2_leastSetFrom 96 = .ok (.iload 8, 2) := by decide +kernel
theorem dX2_leastSetFrom_98 : decode cX2_leastSetFrom 98 = .ok (.goto 5, 3) := by decide +kernel
theorem dX2_leastSetFrom_101 : decode cX2_leastSetFrom 101 = .ok (.iload 6, 2) := by decide +kernel
theorem dX2_leastSetFrom_103 : decode cX2_leastSetFrom 103 = .ok (.istore 6, 2) := by decide +kernel
theorem dX2_leastSetFrom_105 : decode cX2_leastSetFrom 105 = .ok (.goto 24, 3) := by decide +kernel
theorem dX2_leastSetFrom_108 : decode cX2_leastSetFrom 108 = .ok (.iload 9, 2) := by decide +kernel
theorem dX2_leastSetFrom_110 : decode cX2_leastSetFrom 110 = .ok (.ifCond .le 19, 3) := by decide +kernel
theorem dX2_leastSetFrom_113 : decode cX2_leastSetFrom 113 = .ok (.aload_n 0, 1) := by decide +kernel
theorem dX2_leastSetFrom_114 : decode cX2_leastSetFrom 114 = .ok (.iload_n 1, 1) := by decide +kernel
theorem dX2_leastSetFrom_115 : decode cX2_leastSetFrom 115 = .ok (.iload_n 2, 1) := by decide +kernel
theorem dX2_leastSetFrom_116 : decode cX2_leastSetFrom 116 = .ok (.iload 8, 2) := by decide +kernel
theorem dX2_leastSetFrom_118 : decode cX2_leastSetFrom 118 = .ok (.iload 7, 2) := by decide +kernel
theorem dX2_leastSetFrom_120 : decode cX2_leastSetFrom 120 = .ok (.iconst 1, 1) := by decide +kernel
theorem dX2_leastSetFrom_121 : decode cX2_leastSetFrom 121 = .ok (.iadd, 1) := by decide +kernel
theorem dX2_leastSetFrom_122 : decode cX2_leastSetFrom 122 = .ok (.iload 6, 2) := by decide +kernel
theorem dX2_leastSetFrom_124 : decode cX2_leastSetFrom 124 = .ok (.invokestatic 77, 3) := by decide +kernel
theorem dX2_leastSetFrom_127 : decode cX2_leastSetFrom 127 = .ok (.istore 6, 2) := by decide +kernel
theorem dX2_leastSetFrom_129 : decode cX2_leastSetFrom 129 = .ok (.aload_n 0, 1) := by decide +kernel
theorem dX2_leastSetFrom_130 : decode cX2_leastSetFrom 130 = .ok (.invokevirtual 71, 3) := by decide +kernel
theorem dX2_leastSetFrom_133 : decode cX2_leastSetFrom 133 = .ok (.bipush (-2), 2) := by decide +kernel
theorem dX2_leastSetFrom_135 : decode cX2_leastSetFrom 135 = .ok (.iload 7, 2) := by decide +kernel
theorem dX2_leastSetFrom_137 : decode cX2_leastSetFrom 137 = .ok (.ishl, 1) := by decide +kernel
theorem dX2_leastSetFrom_138 : decode cX2_leastSetFrom 138 = .ok (.iand, 1) := by decide +kernel
theorem dX2_leastSetFrom_139 : decode cX2_leastSetFrom 139 = .ok (.istore 10, 2) := by decide +kernel
theorem dX2_leastSetFrom_141 : decode cX2_leastSetFrom 141 = .ok (.aload_n 0, 1) := by decide +kernel
theorem dX2_leastSetFrom_142 : decode cX2_leastSetFrom 142 = .ok (.iload_n 1, 1) := by decide +kernel
theorem dX2_leastSetFrom_143 : decode cX2_leastSetFrom 143 = .ok (.iload_n 3, 1) := by decide +kernel
theorem dX2_leastSetFrom_144 : decode cX2_leastSetFrom 144 = .ok (.iload 10, 2) := by decide +kernel
theorem dX2_leastSetFrom_146 : decode cX2_leastSetFrom 146 = .ok (.ior, 1) := by decide +kernel
theorem dX2_leastSetFrom_147 : decode cX2_leastSetFrom 147 = .ok (.aload_n 0, 1) := by decide +kernel
theorem dX2_leastSetFrom_148 : decode cX2_leastSetFrom 148 = .ok (.invokevirtual 58, 3) := by decide +kernel
theorem dX2_leastSetFrom_151 : decode cX2_leastSetFrom 151 = .ok (.iload_n 2, 1) := by decide +kernel
theorem dX2_leastSetFrom_152 : decode cX2_leastSetFrom 152 = .ok (.invokevirtual 67, 3) := by decide +kernel
theorem dX2_leastSetFrom_155 : decode cX2_leastSetFrom 155 = .ok (.ifCond .ne 6, 3) := by decide +kernel
theorem dX2_leastSetFrom_158 : decode cX2_leastSetFrom 158 = .ok (.goto 9, 3) := by decide +kernel
theorem dX2_leastSetFrom_161 : decode cX2_leastSetFrom 161 = .ok (.iinc 7 1, 3) := by decide +kernel
theorem dX2_leastSetFrom_164 : decode cX2_leastSetFrom 164 = .ok (.goto (-156), 3) := by decide +kernel
theorem dX2_leastSetFrom_167 : decode cX2_leastSetFrom 167 = .ok (.iload 6, 2) := by decide +kernel
theorem dX2_leastSetFrom_169 : decode cX2_leastSetFrom 169 = .ok (.ireturn, 1) := by decide +kernel
theorem dX2_isBetter_0 : decode cX2_isBetter 0 = .ok (.aload_n 0, 1) := by decide +kernel
theorem dX2_isBetter_1 : decode cX2_isBetter 1 = .ok (.iload_n 1, 1) := by decide +kernel
theorem dX2_isBetter_2 : decode cX2_isBetter 2 = .ok (.invokevirtual 81, 3) := by decide +kernel
theorem dX2_isBetter_5 : decode cX2_isBetter 5 = .ok (.aload_n 0, 1) := by decide +kernel
theorem dX2_isBetter_6 : decode cX2_isBetter 6 = .ok (.iload_n 2, 1) := by decide +kernel
theorem dX2_isBetter_7 : decode cX2_isBetter 7 = .ok (.invokevirtual 81, 3) := by decide +kernel
theorem dX2_isBetter_10 : decode cX2_isBetter 10 = .ok (.if_icmp .eq 22, 3) := by decide +kernel
theorem dX2_isBetter_13 : decode cX2_isBetter 13 = .ok (.aload_n 0, 1) := by decide +kernel
theorem dX2_isBetter_14 : decode cX2_isBetter 14 = .ok (.iload_n 1, 1) := by decide +kernel
theorem dX2_isBetter_15 : decode cX2_isBetter 15 = .ok (.invokevirtual 81, 3) := by decide +kernel
theorem dX2_isBetter_18 : decode cX2_isBetter 18 = .ok (.aload_n 0, 1) := by decide +kernel
theorem dX2_isBetter_19 : decode cX2_isBetter 19 = .ok (.iload_n 2, 1) := by decide +kernel
theorem dX2_isBetter_20 : decode cX2_isBetter 20 = .ok (.invokevirtual 81, 3) := by decide +kernel
theorem dX2_isBetter_23 : decode cX2_isBetter 23 = .ok (.if_icmp .ge 7, 3) := by decide +kernel
theorem dX2_isBetter_26 : decode cX2_isBetter 26 = .ok (.iconst 1, 1) := by decide +kernel
theorem dX2_isBetter_27 : decode cX2_isBetter 27 = .ok (.goto 4, 3) := by decide +kernel
theorem dX2_isBetter_30 : decode cX2_isBetter 30 = .ok (.iconst 0, 1) := by decide +kernel
theorem dX2_isBetter_31 : decode cX2_isBetter 31 = .ok (.ireturn, 1) := by decide +kernel
theorem dX2_isBetter_32 : decode cX2_isBetter 32 = .ok (.iload_n 1, 1) := by decide +kernel
theorem dX2_isBetter_33 : decode cX2_isBetter 33 = .ok (.invokestatic 62, 3) := by decide +kernel
theorem dX2_isBetter_36 : decode cX2_isBetter 36 = .ok (.iload_n 2, 1) := by decide +kernel
theorem dX2_isBetter_37 : decode cX2_isBetter 37 = .ok (.invokestatic 62, 3) := by decide +kernel
theorem dX2_isBetter_40 : decode cX2_isBetter 40 = .ok (.if_icmp .eq 20, 3) := by decide +kernel
theorem dX2_isBetter_43 : decode cX2_isBetter 43 = .ok (.iload_n 1, 1) := by decide +kernel
theorem dX2_isBetter_44 : decode cX2_isBetter 44 = .ok (.invokestatic 62, 3) := by decide +kernel
theorem dX2_isBetter_47 : decode cX2_isBetter 47 = .ok (.iload_n 2, 1) := by decide +kernel
theorem dX2_isBetter_48 : decode cX2_isBetter 48 = .ok (.invokestatic 62, 3) := by decide +kernel
theorem dX2_isBetter_51 : decode cX2_isBetter 51 = .ok (.if_icmp .ge 7, 3) := by decide +kernel
theorem dX2_isBetter_54 : decode cX2_isBetter 54 = .ok (.iconst 1, 1) := by decide +kernel
theorem dX2_isBetter_55 : decode cX2_isBetter 55 = .ok (.goto 4, 3) := by decide +kernel
theorem dX2_isBetter_58 : decode cX2_isBetter 58 = .ok (.iconst 0, 1) := by decide +kernel
theorem dX2_isBetter_59 : decode cX2_isBetter 59 = .ok (.ireturn, 1) := by decide +kernel
theorem dX2_isBetter_60 : decode cX2_isBetter 60 = .ok (.iload_n 1, 1) := by decide +kernel
theorem dX2_isBetter_61 : decode cX2_isBetter 61 = .ok (.iload_n 2, 1) := by decide +kernel
theorem dX2_isBetter_62 : decode cX2_isBetter 62 = .ok (.ixor, 1) := by decide +kernel
theorem dX2_isBetter_63 : decode cX2_isBetter 63 = .ok (.istore_n 3, 1) := by decide +kernel
theorem dX2_isBetter_64 : decode cX2_isBetter 64 = .ok (.iload_n 3, 1) := by decide +kernel
theorem dX2_isBetter_65 : decode cX2_isBetter 65 = .ok (.iload_n 3, 1) := by decide +kernel
theorem dX2_isBetter_66 : decode cX2_isBetter 66 = .ok (.ineg, 1) := by decide +kernel
theorem dX2_isBetter_67 : decode cX2_isBetter 67 = .ok (.iand, 1) := by decide +kernel
theorem dX2_isBetter_68 : decode cX2_isBetter 68 = .ok (.istore 4, 2) := by decide +kernel
theorem dX2_isBetter_70 : decode cX2_isBetter 70 = .ok (.iload_n 1, 1) := by decide +kernel
theorem dX2_isBetter_71 : decode cX2_isBetter 71 = .ok (.iload 4, 2) := by decide +kernel
theorem dX2_isBetter_73 : decode cX2_isBetter 73 = .ok (.iand, 1) := by decide +kernel
theorem dX2_isBetter_74 : decode cX2_isBetter 74 = .ok (.ifCond .eq 7, 3) := by decide +kernel
theorem dX2_isBetter_77 : decode cX2_isBetter 77 = .ok (.iconst 1, 1) := by decide +kernel
theorem dX2_isBetter_78 : decode cX2_isBetter 78 = .ok (.goto 4, 3) := by decide +kernel
theorem dX2_isBetter_81 : decode cX2_isBetter 81 = .ok (.iconst 0, 1) := by decide +kernel
theorem dX2_isBetter_82 : decode cX2_isBetter 82 = .ok (.ireturn, 1) := by decide +kernel
theorem dX3_init_0 : decode cX3_init 0 = .ok (.aload_n 0, 1) := by decide +kernel
theorem dX3_init_1 : decode cX3_init 1 = .ok (.invokespecial 3, 3) := by decide +kernel
theorem dX3_init_4 : decode cX3_init 4 = .ok (.aload_n 0, 1) := by decide +kernel
theorem dX3_init_5 : decode cX3_init 5 = .ok (.bipush 7, 2) := by decide +kernel
theorem dX3_init_7 : decode cX3_init 7 = .ok (.newarray .int, 2) := by decide +kernel
theorem dX3_init_9 : decode cX3_init 9 = .ok (.putfield 9, 3) := by decide +kernel
theorem dX3_init_12 : decode cX3_init 12 = .ok (.aload_n 0, 1) := by decide +kernel
theorem dX3_init_13 : decode cX3_init 13 = .ok (.bipush 7, 2) := by decide +kernel
theorem dX3_init_15 : decode cX3_init 15 = .ok (.newarray .int, 2) := by decide +kernel
theorem dX3_init_17 : decode cX3_init 17 = .ok (.putfield 15, 3) := by decide +kernel
theorem dX3_init_20 : decode cX3_init 20 = .ok (.aload_n 0, 1) := by decide +kernel
theorem dX3_init_21 : decode cX3_init 21 = .ok (.bipush 7, 2) := by decide +kernel
theorem dX3_init_23 : decode cX3_init 23 = .ok (.newarray .int, 2) := by decide +kernel
theorem dX3_init_25 : decode cX3_init 25 = .ok (.putfield 18, 3) := by decide +kernel
theorem dX3_init_28 : decode cX3_init 28 = .ok (.aload_n 0, 1) := by decide +kernel
theorem dX3_init_29 : decode cX3_init 29 = .ok (.bipush 7, 2) := by decide +kernel
theorem dX3_init_31 : decode cX3_init 31 = .ok (.newarray .int, 2) := by decide +kernel
theorem dX3_init_33 : decode cX3_init 33 = .ok (.putfield 21, 3) := by decide +kernel
theorem dX3_init_36 : decode cX3_init 36 = .ok (.aload_n 0, 1) := by decide +kernel
theorem dX3_init_37 : decode cX3_init 37 = .ok (.bipush 7, 2) := by decide +kernel
theorem dX3_init_39 : decode cX3_init 39 = .ok (.newarray .int, 2) := by decide +kernel
theorem dX3_init_41 : decode cX3_init 41 = .ok (.putfield 24, 3) := by decide +kernel
theorem dX3_init_44 : decode cX3_init 44 = .ok (.aload_n 0, 1) := by decide +kernel
theorem dX3_init_45 : decode cX3_init 45 = .ok (.bipush 7, 2) := by decide +kernel
theorem dX3_init_47 : decode cX3_init 47 = .ok (.newarray .int, 2) := by decide +kernel
theorem dX3_init_49 : decode cX3_init 49 = .ok (.putfield 27, 3) := by decide +kernel
theorem dX3_init_52 : decode cX3_init 52 = .ok (.aload_n 0, 1) := by decide +kernel
theorem dX3_init_53 : decode cX3_init 53 = .ok (.bipush 7, 2) := by decide +kernel
theorem dX3_init_55 : decode cX3_init 55 = .ok (.newarray .int, 2) := by decide +kernel
theorem dX3_init_57 : decode cX3_init 57 = .ok (.putfield 30, 3) := by decide +kernel
theorem dX3_init_60 : decode cX3_init 60 = .ok (.aload_n 0, 1) := by decide +kernel
theorem dX3_init_61 : decode cX3_init 61 = .ok (.bipush 7, 2) := by decide +kernel
theorem dX3_init_63 : decode cX3_init 63 = .ok (.newarray .int, 2) := by decide +kernel
theorem dX3_init_65 : decode cX3_init 65 = .ok (.putfield 33, 3) := by decide +kernel
theorem dX3_init_68 : decode cX3_init 68 = .ok (.aload_n 0, 1) := by decide +kernel
theorem dX3_init_69 : decode cX3_init 69 = .ok (.iconst 0, 1) := by decide +kernel
theorem dX3_init_70 : decode cX3_init 70 = .ok (.putfield 36, 3) := by decide +kernel
theorem dX3_init_73 : decode cX3_init 73 = .ok (.return_, 1) := by decide +kernel
theorem dX3_write_0 : decode cX3_write 0 = .ok (.aload_n 0, 1) := by decide +kernel
theorem dX3_write_1 : decode cX3_write 1 = .ok (.getfield 36, 3) := by decide +kernel
theorem dX3_write_4 : decode cX3_write 4 = .ok (.istore 4, 2) := by decide +kernel
theorem dX3_write_6 : decode cX3_write 6 = .ok (.aload_n 0, 1) := by decide +kernel
theorem dX3_write_7 : decode cX3_write 7 = .ok (.getfield 9, 3) := by decide +kernel
theorem dX3_write_10 : decode cX3_write 10 = .ok (.iload 4, 2) := by decide +kernel
theorem dX3_write_12 : decode cX3_write 12 = .ok (.iload_n 1, 1) := by decide +kernel
theorem dX3_write_13 : decode cX3_write 13 = .ok (.iastore, 1) := by decide +kernel
theorem dX3_write_14 : decode cX3_write 14 = .ok (.aload_n 0, 1) := by decide +kernel
theorem dX3_write_15 : decode cX3_write 15 = .ok (.getfield 15, 3) := by decide +kernel
theorem dX3_write_18 : decode cX3_write 18 = .ok (.iload 4, 2) := by decide +kernel
theorem dX3_write_20 : decode cX3_write 20 = .ok (.iload_n 2, 1) := by decide +kernel
theorem dX3_write_21 : decode cX3_write 21 = .ok (.iastore, 1) := by decide +kernel
theorem dX3_write_22 : decode cX3_write 22 = .ok (.aload_n 0, 1) := by decide +kernel
theorem dX3_write_23 : decode cX3_write 23 = .ok (.getfield 18, 3) := by decide +kernel
theorem dX3_write_26 : decode cX3_write 26 = .ok (.iload 4, 2) := by decide +kernel
theorem dX3_write_28 : decode cX3_write 28 = .ok (.iload_n 3, 1) := by decide +kernel
theorem dX3_write_29 : decode cX3_write 29 = .ok (.iastore, 1) := by decide +kernel
theorem dX3_write_30 : decode cX3_write 30 = .ok (.aload_n 0, 1) := by decide +kernel
theorem dX3_write_31 : decode cX3_write 31 = .ok (.getfield 21, 3) := by decide +kernel
theorem dX3_write_34 : decode cX3_write 34 = .ok (.iload 4, 2) := by decide +kernel
theorem dX3_write_36 : decode cX3_write 36 = .ok (.iconst 0, 1) := by decide +kernel
theorem dX3_write_37 : decode cX3_write 37 = .ok (.iastore, 1) := by decide +kernel
theorem dX3_write_38 : decode cX3_write 38 = .ok (.aload_n 0, 1) := by decide +kernel
theorem dX3_write_39 : decode cX3_write 39 = .ok (.getfield 24, 3) := by decide +kernel
theorem dX3_write_42 : decode cX3_write 42 = .ok (.iload 4, 2) := by decide +kernel
theorem dX3_write_44 : decode cX3_write 44 = .ok (.iconst (-1), 1) := by decide +kernel
theorem dX3_write_45 : decode cX3_write 45 = .ok (.iastore, 1) := by decide +kernel
theorem dX3_write_46 : decode cX3_write 46 = .ok (.aload_n 0, 1) := by decide +kernel
theorem dX3_write_47 : decode cX3_write 47 = .ok (.getfield 27, 3) := by decide +kernel
theorem dX3_write_50 : decode cX3_write 50 = .ok (.iload 4, 2) := by decide +kernel
theorem dX3_write_52 : decode cX3_write 52 = .ok (.bipush (-3), 2) := by decide +kernel
theorem dX3_write_54 : decode cX3_write 54 = .ok (.iastore, 1) := by decide +kernel
theorem dX3_write_55 : decode cX3_write 55 = .ok (.aload_n 0, 1) := by decide +kernel
theorem dX3_write_56 : decode cX3_write 56 = .ok (.getfield 30, 3) := by decide +kernel
theorem dX3_write_59 : decode cX3_write 59 = .ok (.iload 4, 2) := by decide +kernel
theorem dX3_write_61 : decode cX3_write 61 = .ok (.bipush (-3), 2) := by decide +kernel
theorem dX3_write_63 : decode cX3_write 63 = .ok (.iastore, 1) := by decide +kernel
theorem dX3_write_64 : decode cX3_write 64 = .ok (.aload_n 0, 1) := by decide +kernel
theorem dX3_write_65 : decode cX3_write 65 = .ok (.getfield 33, 3) := by decide +kernel
theorem dX3_write_68 : decode cX3_write 68 = .ok (.iload 4, 2) := by decide +kernel
theorem dX3_write_70 : decode cX3_write 70 = .ok (.bipush (-3), 2) := by decide +kernel
theorem dX3_write_72 : decode cX3_write 72 = .ok (.iastore, 1) := by decide +kernel
theorem dX3_write_73 : decode cX3_write 73 = .ok (.aload_n 0, 1) := by decide +kernel
theorem dX3_write_74 : decode cX3_write 74 = .ok (.dup, 1) := by decide +kernel
theorem dX3_write_75 : decode cX3_write 75 = .ok (.getfield 36, 3) := by decide +kernel
theorem dX3_write_78 : decode cX3_write 78 = .ok (.iconst 1, 1) := by decide +kernel
theorem dX3_write_79 : decode cX3_write 79 = .ok (.iadd, 1) := by decide +kernel
theorem dX3_write_80 : decode cX3_write 80 = .ok (.putfield 36, 3) := by decide +kernel
theorem dX3_write_83 : decode cX3_write 83 = .ok (.iload 4, 2) := by decide +kernel
theorem dX3_write_85 : decode cX3_write 85 = .ok (.ireturn, 1) := by decide +kernel
theorem dX3_has_0 : decode cX3_has 0 = .ok (.iload_n 1, 1) := by decide +kernel
theorem dX3_has_1 : decode cX3_has 1 = .ok (.ifCond .lt 15, 3) := by decide +kernel
theorem dX3_has_4 : decode cX3_has 4 = .ok (.iload_n 1, 1) := by decide +kernel
theorem dX3_has_5 : decode cX3_has 5 = .ok (.aload_n 0, 1) := by decide +kernel
theorem dX3_has_6 : decode cX3_has 6 = .ok (.getfield 36, 3) := by decide +kernel
theorem dX3_has_9 : decode cX3_has 9 = .ok (.if_icmp .ge 7, 3) := by decide +kernel
theorem dX3_has_12 : decode cX3_has 12 = .ok (.iconst 1, 1) := by decide +kernel
theorem dX3_has_13 : decode cX3_has 13 = .ok (.goto 4, 3) := by decide +kernel
theorem dX3_has_16 : decode cX3_has 16 = .ok (.iconst 0, 1) := by decide +kernel
theorem dX3_has_17 : decode cX3_has 17 = .ok (.ireturn, 1) := by decide +kernel
theorem dX3_inState_0 : decode cX3_inState 0 = .ok (.iconst 0, 1) := by decide +kernel
theorem dX3_inState_1 : decode cX3_inState 1 = .ok (.istore_n 2, 1) := by decide +kernel
theorem dX3_inState_2 : decode cX3_inState 2 = .ok (.iconst 0, 1) := by decide +kernel
theorem dX3_inState_3 : decode cX3_inState 3 = .ok (.istore_n 3, 1) := by decide +kernel
theorem dX3_inState_4 : decode cX3_inState 4 = .ok (.iload_n 3, 1) := by decide +kernel
theorem dX3_inState_5 : decode cX3_inState 5 = .ok (.aload_n 0, 1) := by decide +kernel
theorem dX3_inState_6 : decode cX3_inState 6 = .ok (.getfield 36, 3) := by decide +kernel
theorem dX3_inState_9 : decode cX3_inState 9 = .ok (.if_icmp .ge 29, 3) := by decide +kernel
theorem dX3_inState_12 : decode cX3_inState 12 = .ok (.iload_n 2, 1) := by decide +kernel
theorem dX3_inState_13 : decode cX3_inState 13 = .ok (.aload_n 0, 1) := by decide +kernel
theorem dX3_inState_14 : decode cX3_inState 14 = .ok (.getfield 21, 3) := by decide +kernel
theorem dX3_inState_17 : decode cX3_inState 17 = .ok (.iload_n 3, 1) := by decide +kernel
theorem dX3_inState_18 : decode cX3_inState 18 = .ok (.iaload, 1) := by decide +kernel
theorem dX3_inState_19 : decode cX3_inState 19 = .ok (.iload_n 1, 1) := by decide +kernel
theorem dX3_inState_20 : decode cX3_inState 20 = .ok (.if_icmp .ne 9, 3) := by decide +kernel
theorem dX3_inState_23 : decode cX3_inState 23 = .ok (.iconst 1, 1) := by decide +kernel
theorem dX3_inState_24 : decode cX3_inState 24 = .ok (.iload_n 3, 1) := by decide +kernel
theorem dX3_inState_25 : decode cX3_inState 25 = .ok (.ishl, 1) := by decide +kernel
theorem dX3_inState_26 : decode cX3_inState 26 = .ok (.goto 4, 3) := by decide +kernel
theorem dX3_inState_29 : decode cX3_inState 29 = .ok (.iconst 0, 1) := by decide +kernel
theorem dX3_inState_30 : decode cX3_inState 30 = .ok (.ior, 1) := by decide +kernel
theorem dX3_inState_31 : decode cX3_inState 31 = .ok (.istore_n 2, 1) := by decide +kernel
theorem dX3_inState_32 : decode cX3_inState 32 = .ok (.iinc 3 1, 3) := by decide +kernel
theorem dX3_inState_35 : decode cX3_inState 35 = .ok (.goto (-31), 3) := by decide +kernel
theorem dX3_inState_38 : decode cX3_inState 38 = .ok (.iload_n 2, 1) := by decide +kernel
theorem dX3_inState_39 : decode cX3_inState 39 = .ok (.ireturn, 1) := by decide +kernel
theorem dX3_locksOf_0 : decode cX3_locksOf 0 = .ok (.aload_n 0, 1) := by decide +kernel
theorem dX3_locksOf_1 : decode cX3_locksOf 1 = .ok (.getfield 21, 3) := by decide +kernel
theorem dX3_locksOf_4 : decode cX3_locksOf 4 = .ok (.iload_n 1, 1) := by decide +kernel
theorem dX3_locksOf_5 : decode cX3_locksOf 5 = .ok (.iaload, 1) := by decide +kernel
theorem dX3_locksOf_6 : decode cX3_locksOf 6 = .ok (.iconst 1, 1) := by decide +kernel
theorem dX3_locksOf_7 : decode cX3_locksOf 7 = .ok (.if_icmp .lt 22, 3) := by decide +kernel
theorem dX3_locksOf_10 : decode cX3_locksOf 10 = .ok (.aload_n 0, 1) := by decide +kernel
theorem dX3_locksOf_11 : decode cX3_locksOf 11 = .ok (.getfield 21, 3) := by decide +kernel
theorem dX3_locksOf_14 : decode cX3_locksOf 14 = .ok (.iload_n 1, 1) := by decide +kernel
theorem dX3_locksOf_15 : decode cX3_locksOf 15 = .ok (.iaload, 1) := by decide +kernel
theorem dX3_locksOf_16 : decode cX3_locksOf 16 = .ok (.iconst 5, 1) := by decide +kernel
theorem dX3_locksOf_17 : decode cX3_locksOf 17 = .ok (.if_icmp .ge 12, 3) := by decide +kernel
theorem dX3_locksOf_20 : decode cX3_locksOf 20 = .ok (.aload_n 0, 1) := by decide +kernel
theorem dX3_locksOf_21 : decode cX3_locksOf 21 = .ok (.getfield 18, 3) := by decide +kernel
theorem dX3_locksOf_24 : decode cX3_locksOf 24 = .ok (.iload_n 1, 1) := by decide +kernel
theorem dX3_locksOf_25 : decode cX3_locksOf 25 = .ok (.iaload, 1) := by decide +kernel
theorem dX3_locksOf_26 : decode cX3_locksOf 26 = .ok (.goto 4, 3) := by decide +kernel
theorem dX3_locksOf_29 : decode cX3_locksOf 29 = .ok (.iconst 0, 1) := by decide +kernel
theorem dX3_locksOf_30 : decode cX3_locksOf 30 = .ok (.ireturn, 1) := by decide +kernel
theorem dX3_lockedPipes_0 : decode cX3_lockedPipes 0 = .ok (.iconst 0, 1) := by decide +kernel
theorem dX3_lockedPipes_1 : decode cX3_lockedPipes 1 = .ok (.istore_n 1, 1) := by decide +kernel
theorem dX3_lockedPipes_2 : decode cX3_lockedPipes 2 = .ok (.iconst 0, 1) := by decide +kernel
theorem dX3_lockedPipes_3 : decode cX3_lockedPipes 3 = .ok (.istore_n 2, 1) := by decide +kernel
theorem dX3_lockedPipes_4 : decode cX3_lockedPipes 4 = .ok (.iload_n 2, 1) := by decide +kernel
theorem dX3_lockedPipes_5 : decode cX3_lockedPipes 5 = .ok (.aload_n 0, 1) := by decide +kernel
theorem dX3_lockedPipes_6 : decode cX3_lockedPipes 6 = .ok (.getfield 36, 3) := by decide +kernel
theorem dX3_lockedPipes_9 : decode cX3_lockedPipes 9 = .ok (.if_icmp .ge 17, 3) := by decide +kernel
theorem dX3_lockedPipes_12 : decode cX3_lockedPipes 12 = .ok (.iload_n 1, 1) := by decide +kernel
theorem dX3_lockedPipes_13 : decode cX3_lockedPipes 13 = .ok (.aload_n 0, 1) := by decide +kernel
theorem dX3_lockedPipes_14 : decode cX3_lockedPipes 14 = .ok (.iload_n 2, 1) := by decide +kernel
theorem dX3_lockedPipes_15 : decode cX3_lockedPipes 15 = .ok (.invokevirtual 40, 3) := by decide +kernel
theorem dX3_lockedPipes_18 : decode cX3_lockedPipes 18 = .ok (.ior, 1) := by decide +kernel
theorem dX3_lockedPipes_19 : decode cX3_lockedPipes 19 = .ok (.istore_n 1, 1) := by decide +kernel
theorem dX3_lockedPipes_20 : decode cX3_lockedPipes 20 = .ok (.iinc 2 1, 3) := by decide +kernel
theorem dX3_lockedPipes_23 : decode cX3_lockedPipes 23 = .ok (.goto (-19), 3) := by decide +kernel
theorem dX3_lockedPipes_26 : decode cX3_lockedPipes 26 = .ok (.iload_n 1, 1) := by decide +kernel
theorem dX3_lockedPipes_27 : decode cX3_lockedPipes 27 = .ok (.ireturn, 1) := by decide +kernel
theorem dX3_locksOn_0 : decode cX3_locksOn 0 = .ok (.iconst 0, 1) := by decide +kernel
theorem dX3_locksOn_1 : decode cX3_locksOn 1 = .ok (.istore_n 2, 1) := by decide +kernel
theorem dX3_locksOn_2 : decode cX3_locksOn 2 = .ok (.iconst 0, 1) := by decide +kernel
theorem dX3_locksOn_3 : decode cX3_locksOn 3 = .ok (.istore_n 3, 1) := by decide +kernel
theorem dX3_locksOn_4 : decode cX3_locksOn 4 = .ok (.iload_n 3, 1) := by decide +kernel
theorem dX3_locksOn_5 : decode cX3_locksOn 5 = .ok (.aload_n 0, 1) := by decide +kernel
theorem dX3_locksOn_6 : decode cX3_locksOn 6 = .ok (.getfield 36, 3) := by decide +kernel
theorem dX3_locksOn_9 : decode cX3_locksOn 9 = .ok (.if_icmp .ge 21, 3) := by decide +kernel
theorem dX3_locksOn_12 : decode cX3_locksOn 12 = .ok (.iload_n 2, 1) := by decide +kernel
theorem dX3_locksOn_13 : decode cX3_locksOn 13 = .ok (.aload_n 0, 1) := by decide +kernel
theorem dX3_locksOn_14 : decode cX3_locksOn 14 = .ok (.iload_n 3, 1) := by decide +kernel
theorem dX3_locksOn_15 : decode cX3_locksOn 15 = .ok (.invokevirtual 40, 3) := by decide +kernel
theorem dX3_locksOn_18 : decode cX3_locksOn 18 = .ok (.iload_n 1, 1) := by decide +kernel
theorem dX3_locksOn_19 : decode cX3_locksOn 19 = .ok (.ishr, 1) := by decide +kernel
theorem dX3_locksOn_20 : decode cX3_locksOn 20 = .ok (.iconst 1, 1) := by decide +kernel
theorem dX3_locksOn_21 : decode cX3_locksOn 21 = .ok (.iand, 1) := by decide +kernel
theorem dX3_locksOn_22 : decode cX3_locksOn 22 = .ok (.iadd, 1) := by decide +kernel
theorem dX3_locksOn_23 : decode cX3_locksOn 23 = .ok (.istore_n 2, 1) := by decide +kernel
theorem dX3_locksOn_24 : decode cX3_locksOn 24 = .ok (.iinc 3 1, 3) := by decide +kernel
theorem dX3_locksOn_27 : decode cX3_locksOn 27 = .ok (.goto (-23), 3) := by decide +kernel
theorem dX3_locksOn_30 : decode cX3_locksOn 30 = .ok (.iload_n 2, 1) := by decide +kernel
theorem dX3_locksOn_31 : decode cX3_locksOn 31 = .ok (.ireturn, 1) := by decide +kernel
theorem dX3_allLocks_0 : decode cX3_allLocks 0 = .ok (.iconst 0, 1) := by decide +kernel
theorem dX3_allLocks_1 : decode cX3_allLocks 1 = .ok (.istore_n 1, 1) := by decide +kernel
theorem dX3_allLocks_2 : decode cX3_allLocks 2 = .ok (.iconst 0, 1) := by decide +kernel
theorem dX3_allLocks_3 : decode cX3_allLocks 3 = .ok (.istore_n 2, 1) := by decide +kernel
theorem dX3_allLocks_4 : decode cX3_allLocks 4 = .ok (.iload_n 2, 1) := by decide +kernel
theorem dX3_allLocks_5 : decode cX3_allLocks 5 = .ok (.aload_n 0, 1) := by decide +kernel
theorem dX3_allLocks_6 : decode cX3_allLocks 6 = .ok (.getfield 36, 3) := by decide +kernel
theorem dX3_allLocks_9 : decode cX3_allLocks 9 = .ok (.if_icmp .ge 20, 3) := by decide +kernel
theorem dX3_allLocks_12 : decode cX3_allLocks 12 = .ok (.iload_n 1, 1) := by decide +kernel
theorem dX3_allLocks_13 : decode cX3_allLocks 13 = .ok (.aload_n 0, 1) := by decide +kernel
theorem dX3_allLocks_14 : decode cX3_allLocks 14 = .ok (.iload_n 2, 1) := by decide +kernel
theorem dX3_allLocks_15 : decode cX3_allLocks 15 = .ok (.invokevirtual 40, 3) := by decide +kernel
theorem dX3_allLocks_18 : decode cX3_allLocks 18 = .ok (.invokestatic 44, 3) := by decide +kernel
theorem dX3_allLocks_21 : decode cX3_allLocks 21 = .ok (.iadd, 1) := by decide +kernel
theorem dX3_allLocks_22 : decode cX3_allLocks 22 = .ok (.istore_n 1, 1) := by decide +kernel
theorem dX3_allLocks_23 : decode cX3_allLocks 23 = .ok (.iinc 2 1, 3) := by decide +kernel
theorem dX3_allLocks_26 : decode cX3_allLocks 26 = .ok (.goto (-22), 3) := by decide +kernel
theorem dX3_allLocks_29 : decode cX3_allLocks 29 = .ok (.iload_n 1, 1) := by decide +kernel
theorem dX3_allLocks_30 : decode cX3_allLocks 30 = .ok (.ireturn, 1) := by decide +kernel
theorem dX3_noteTest_0 : decode cX3_noteTest 0 = .ok (.aload_n 0, 1) := by decide +kernel
theorem dX3_noteTest_1 : decode cX3_noteTest 1 = .ok (.getfield 27, 3) := by decide +kernel
theorem dX3_noteTest_4 : decode cX3_noteTest 4 = .ok (.iload_n 1, 1) := by decide +kernel
theorem dX3_noteTest_5 : decode cX3_noteTest 5 = .ok (.iload_n 2, 1) := by decide +kernel
theorem dX3_noteTest_6 : decode cX3_noteTest 6 = .ok (.iastore, 1) := by decide +kernel
theorem dX3_noteTest_7 : decode cX3_noteTest 7 = .ok (.aload_n 0, 1) := by decide +kernel
theorem dX3_noteTest_8 : decode cX3_noteTest 8 = .ok (.getfield 30, 3) := by decide +kernel
theorem dX3_noteTest_11 : decode cX3_noteTest 11 = .ok (.iload_n 1, 1) := by decide +kernel
theorem dX3_noteTest_12 : decode cX3_noteTest 12 = .ok (.iload_n 3, 1) := by decide +kernel
theorem dX3_noteTest_13 : decode cX3_noteTest 13 = .ok (.iastore, 1) := by decide +kernel
theorem dX3_noteTest_14 : decode cX3_noteTest 14 = .ok (.aload_n 0, 1) := by decide +kernel
theorem dX3_noteTest_15 : decode cX3_noteTest 15 = .ok (.getfield 21, 3) := by decide +kernel
theorem dX3_noteTest_18 : decode cX3_noteTest 18 = .ok (.iload_n 1, 1) := by decide +kernel
theorem dX3_noteTest_19 : decode cX3_noteTest 19 = .ok (.iaload, 1) := by decide +kernel
theorem dX3_noteTest_20 : decode cX3_noteTest 20 = .ok (.iconst 1, 1) := by decide +kernel
theorem dX3_noteTest_21 : decode cX3_noteTest 21 = .ok (.if_icmp .ne 10, 3) := by decide +kernel
theorem dX3_noteTest_24 : decode cX3_noteTest 24 = .ok (.aload_n 0, 1) := by decide +kernel
theorem dX3_noteTest_25 : decode cX3_noteTest 25 = .ok (.getfield 21, 3) := by decide +kernel
theorem dX3_noteTest_28 : decode cX3_noteTest 28 = .ok (.iload_n 1, 1) := by decide +kernel
theorem dX3_noteTest_29 : decode cX3_noteTest 29 = .ok (.iconst 2, 1) := by decide +kernel
theorem dX3_noteTest_30 : decode cX3_noteTest 30 = .ok (.iastore, 1) := by decide +kernel
theorem dX3_noteTest_31 : decode cX3_noteTest 31 = .ok (.return_, 1) := by decide +kernel
theorem dX3_hasGoodTest_0 : decode cX3_hasGoodTest 0 = .ok (.aload_n 0, 1) := by decide +kernel
theorem dX3_hasGoodTest_1 : decode cX3_hasGoodTest 1 = .ok (.getfield 27, 3) := by decide +kernel
theorem dX3_hasGoodTest_4 : decode cX3_hasGoodTest 4 = .ok (.iload_n 1, 1) := by decide +kernel
theorem dX3_hasGoodTest_5 : decode cX3_hasGoodTest 5 = .ok (.iaload, 1) := by decide +kernel
theorem dX3_hasGoodTest_6 : decode cX3_hasGoodTest 6 = .ok (.bipush (-3), 2) := by decide +kernel
theorem dX3_hasGoodTest_8 : decode cX3_hasGoodTest 8 = .ok (.if_icmp .eq 30, 3) := by decide +kernel
theorem dX3_hasGoodTest_11 : decode cX3_hasGoodTest 11 = .ok (.aload_n 0, 1) := by decide +kernel
theorem dX3_hasGoodTest_12 : decode cX3_hasGoodTest 12 = .ok (.getfield 27, 3) := by decide +kernel
theorem dX3_hasGoodTest_15 : decode cX3_hasGoodTest 15 = .ok (.iload_n 1, 1) := by decide +kernel
theorem dX3_hasGoodTest_16 : decode cX3_hasGoodTest 16 = .ok (.iaload, 1) := by decide +kernel
theorem dX3_hasGoodTest_17 : decode cX3_hasGoodTest 17 = .ok (.bipush 10, 2) := by decide +kernel
theorem dX3_hasGoodTest_19 : decode cX3_hasGoodTest 19 = .ok (.if_icmp .gt 19, 3) := by decide +kernel
theorem dX3_hasGoodTest_22 : decode cX3_hasGoodTest 22 = .ok (.iload_n 2, 1) := by decide +kernel
theorem dX3_hasGoodTest_23 : decode cX3_hasGoodTest 23 = .ok (.aload_n 0, 1) := by decide +kernel
theorem dX3_hasGoodTest_24 : decode cX3_hasGoodTest 24 = .ok (.getfield 30, 3) := by decide +kernel
theorem dX3_hasGoodTest_27 : decode cX3_hasGoodTest 27 = .ok (.iload_n 1, 1) := by decide +kernel
theorem dX3_hasGoodTest_28 : decode cX3_hasGoodTest 28 = .ok (.iaload, 1) := by decide +kernel
theorem dX3_hasGoodTest_29 : decode cX3_hasGoodTest 29 = .ok (.isub, 1) := by decide +kernel
theorem dX3_hasGoodTest_30 : decode cX3_hasGoodTest 30 = .ok (.iload_n 3, 1) := by decide +kernel
theorem dX3_hasGoodTest_31 : decode cX3_hasGoodTest 31 = .ok (.if_icmp .gt 7, 3) := by decide +kernel
theorem dX3_hasGoodTest_34 : decode cX3_hasGoodTest 34 = .ok (.iconst 1, 1) := by decide +kernel
theorem dX3_hasGoodTest_35 : decode cX3_hasGoodTest 35 = .ok (.goto 4, 3) := by decide +kernel
theorem dX3_hasGoodTest_38 : decode cX3_hasGoodTest 38 = .ok (.iconst 0, 1) := by decide +kernel
theorem dX3_hasGoodTest_39 : decode cX3_hasGoodTest 39 = .ok (.ireturn, 1) := by decide +kernel
theorem dX3_endLive_0 : decode cX3_endLive 0 = .ok (.aload_n 0, 1) := by decide +kernel
theorem dX3_endLive_1 : decode cX3_endLive 1 = .ok (.getfield 21, 3) := by decide +kernel
theorem dX3_endLive_4 : decode cX3_endLive 4 = .ok (.iload_n 1, 1) := by decide +kernel
theorem dX3_endLive_5 : decode cX3_endLive 5 = .ok (.iconst 4, 1) := by decide +kernel
theorem dX3_endLive_6 : decode cX3_endLive 6 = .ok (.iastore, 1) := by decide +kernel
theorem dX3_endLive_7 : decode cX3_endLive 7 = .ok (.aload_n 0, 1) := by decide +kernel
theorem dX3_endLive_8 : decode cX3_endLive 8 = .ok (.getfield 33, 3) := by decide +kernel
theorem dX3_endLive_11 : decode cX3_endLive 11 = .ok (.iload_n 1, 1) := by decide +kernel
theorem dX3_endLive_12 : decode cX3_endLive 12 = .ok (.iload_n 2, 1) := by decide +kernel
theorem dX3_endLive_13 : decode cX3_endLive 13 = .ok (.iastore, 1) := by decide +kernel
theorem dX3_endLive_14 : decode cX3_endLive 14 = .ok (.return_, 1) := by decide +kernel
theorem dX3_endAllLive_0 : decode cX3_endAllLive 0 = .ok (.iconst 0, 1) := by decide +kernel
theorem dX3_endAllLive_1 : decode cX3_endAllLive 1 = .ok (.istore_n 2, 1) := by decide +kernel
theorem dX3_endAllLive_2 : decode cX3_endAllLive 2 = .ok (.iload_n 2, 1) := by decide +kernel
theorem dX3_endAllLive_3 : decode cX3_endAllLive 3 = .ok (.aload_n 0, 1) := by decide +kernel
theorem dX3_endAllLive_4 : decode cX3_endAllLive 4 = .ok (.getfield 36, 3) := by decide +kernel
theorem dX3_endAllLive_7 : decode cX3_endAllLive 7 = .ok (.if_icmp .ge 25, 3) := by decide +kernel
theorem dX3_endAllLive_10 : decode cX3_endAllLive 10 = .ok (.aload_n 0, 1) := by decide +kernel
theorem dX3_endAllLive_11 : decode cX3_endAllLive 11 = .ok (.getfield 21, 3) := by decide +kernel
theorem dX3_endAllLive_14 : decode cX3_endAllLive 14 = .ok (.iload_n 2, 1) := by decide +kernel
theorem dX3_endAllLive_15 : decode cX3_endAllLive 15 = .ok (.iaload, 1) := by decide +kernel
theorem dX3_endAllLive_16 : decode cX3_endAllLive 16 = .ok (.iconst 3, 1) := by decide +kernel
theorem dX3_endAllLive_17 : decode cX3_endAllLive 17 = .ok (.if_icmp .ne 9, 3) := by decide +kernel
theorem dX3_endAllLive_20 : decode cX3_endAllLive 20 = .ok (.aload_n 0, 1) := by decide +kernel
theorem dX3_endAllLive_21 : decode cX3_endAllLive 21 = .ok (.iload_n 2, 1) := by decide +kernel
theorem dX3_endAllLive_22 : decode cX3_endAllLive 22 = .ok (.iload_n 1, 1) := by decide +kernel
theorem dX3_endAllLive_23 : decode cX3_endAllLive 23 = .ok (.invokevirtual 49, 3) := by decide +kernel
theorem dX3_endAllLive_26 : decode cX3_endAllLive 26 = .ok (.iinc 2 1, 3) := by decide +kernel
theorem dX3_endAllLive_29 : decode cX3_endAllLive 29 = .ok (.goto (-27), 3) := by decide +kernel
theorem dX3_endAllLive_32 : decode cX3_endAllLive 32 = .ok (.return_, 1) := by decide +kernel
theorem dX3_holdsLive_0 : decode cX3_holdsLive 0 = .ok (.iconst 0, 1) := by decide +kernel
theorem dX3_holdsLive_1 : decode cX3_holdsLive 1 = .ok (.istore_n 2, 1) := by decide +kernel
theorem dX3_holdsLive_2 : decode cX3_holdsLive 2 = .ok (.iload_n 2, 1) := by decide +kernel
theorem dX3_holdsLive_3 : decode cX3_holdsLive 3 = .ok (.aload_n 0, 1) := by decide +kernel
theorem dX3_holdsLive_4 : decode cX3_holdsLive 4 = .ok (.getfield 36, 3) := by decide +kernel
theorem dX3_holdsLive_7 : decode cX3_holdsLive 7 = .ok (.if_icmp .ge 31, 3) := by decide +kernel
theorem dX3_holdsLive_10 : decode cX3_holdsLive 10 = .ok (.aload_n 0, 1) := by decide +kernel
theorem dX3_holdsLive_11 : decode cX3_holdsLive 11 = .ok (.getfield 21, 3) := by decide +kernel
theorem dX3_holdsLive_14 : decode cX3_holdsLive 14 = .ok (.iload_n 2, 1) := by decide +kernel
theorem dX3_holdsLive_15 : decode cX3_holdsLive 15 = .ok (.iaload, 1) := by decide +kernel
theorem dX3_holdsLive_16 : decode cX3_holdsLive 16 = .ok (.iconst 3, 1) := by decide +kernel
theorem dX3_holdsLive_17 : decode cX3_holdsLive 17 = .ok (.if_icmp .ne 15, 3) := by decide +kernel
theorem dX3_holdsLive_20 : decode cX3_holdsLive 20 = .ok (.aload_n 0, 1) := by decide +kernel
theorem dX3_holdsLive_21 : decode cX3_holdsLive 21 = .ok (.getfield 24, 3) := by decide +kernel
theorem dX3_holdsLive_24 : decode cX3_holdsLive 24 = .ok (.iload_n 2, 1) := by decide +kernel
theorem dX3_holdsLive_25 : decode cX3_holdsLive 25 = .ok (.iaload, 1) := by decide +kernel
theorem dX3_holdsLive_26 : decode cX3_holdsLive 26 = .ok (.iload_n 1, 1) := by decide +kernel
theorem dX3_holdsLive_27 : decode cX3_holdsLive 27 = .ok (.if_icmp .ne 5, 3) := by decide +kernel
theorem dX3_holdsLive_30 : decode cX3_holdsLive 30 = .ok (.iconst 1, 1) := by decide +kernel
theorem dX3_holdsLive_31 : decode cX3_holdsLive 31 = .ok (.ireturn, 1) := by decide +kernel
theorem dX3_holdsLive_32 : decode cX3_holdsLive 32 = .ok (.iinc 2 1, 3) := by decide +kernel
theorem dX3_holdsLive_35 : decode cX3_holdsLive 35 = .ok (.goto (-33), 3) := by decide +kernel
theorem dX3_holdsLive_38 : decode cX3_holdsLive 38 = .ok (.iconst 0, 1) := by decide +kernel
theorem dX3_holdsLive_39 : decode cX3_holdsLive 39 = .ok (.ireturn, 1) := by decide +kernel
theorem dX4_init_0 : decode cX4_init 0 = .ok (.aload_n 0, 1) := by decide +kernel
theorem dX4_init_1 : decode cX4_init 1 = .ok (.invokespecial 3, 3) := by decide +kernel
theorem dX4_init_4 : decode cX4_init 4 = .ok (.aload_n 0, 1) := by decide +kernel
theorem dX4_init_5 : decode cX4_init 5 = .ok (.bipush 7, 2) := by decide +kernel
theorem dX4_init_7 : decode cX4_init 7 = .ok (.newarray .int, 2) := by decide +kernel
theorem dX4_init_9 : decode cX4_init 9 = .ok (.putfield 9, 3) := by decide +kernel
theorem dX4_init_12 : decode cX4_init 12 = .ok (.aload_n 0, 1) := by decide +kernel
theorem dX4_init_13 : decode cX4_init 13 = .ok (.bipush 84, 2) := by decide +kernel
theorem dX4_init_15 : decode cX4_init 15 = .ok (.newarray .int, 2) := by decide +kernel
theorem dX4_init_17 : decode cX4_init 17 = .ok (.putfield 15, 3) := by decide +kernel
theorem dX4_init_20 : decode cX4_init 20 = .ok (.aload_n 0, 1) := by decide +kernel
theorem dX4_init_21 : decode cX4_init 21 = .ok (.bipush 84, 2) := by decide +kernel
theorem dX4_init_23 : decode cX4_init 23 = .ok (.newarray .int, 2) := by decide +kernel
theorem dX4_init_25 : decode cX4_init 25 = .ok (.putfield 18, 3) := by decide +kernel
theorem dX4_init_28 : decode cX4_init 28 = .ok (.aload_n 0, 1) := by decide +kernel
theorem dX4_init_29 : decode cX4_init 29 = .ok (.iconst 0, 1) := by decide +kernel
theorem dX4_init_30 : decode cX4_init 30 = .ok (.putfield 21, 3) := by decide +kernel
theorem dX4_init_33 : decode cX4_init 33 = .ok (.aload_n 0, 1) := by decide +kernel
theorem dX4_init_34 : decode cX4_init 34 = .ok (.iconst 0, 1) := by decide +kernel
theorem dX4_init_35 : decode cX4_init 35 = .ok (.putfield 25, 3) := by decide +kernel
theorem dX4_init_38 : decode cX4_init 38 = .ok (.aload_n 0, 1) := by decide +kernel
theorem dX4_init_39 : decode cX4_init 39 = .ok (.iconst 0, 1) := by decide +kernel
theorem dX4_init_40 : decode cX4_init 40 = .ok (.putfield 28, 3) := by decide +kernel
theorem dX4_init_43 : decode cX4_init 43 = .ok (.aload_n 0, 1) := by decide +kernel
theorem dX4_init_44 : decode cX4_init 44 = .ok (.iconst 0, 1) := by decide +kernel
theorem dX4_init_45 : decode cX4_init 45 = .ok (.putfield 31, 3) := by decide +kernel
theorem dX4_init_48 : decode cX4_init 48 = .ok (.aload_n 0, 1) := by decide +kernel
theorem dX4_init_49 : decode cX4_init 49 = .ok (.bipush 7, 2) := by decide +kernel
theorem dX4_init_51 : decode cX4_init 51 = .ok (.newarray .int, 2) := by decide +kernel
theorem dX4_init_53 : decode cX4_init 53 = .ok (.putfield 35, 3) := by decide +kernel
theorem dX4_init_56 : decode cX4_init 56 = .ok (.aload_n 0, 1) := by decide +kernel
theorem dX4_init_57 : decode cX4_init 57 = .ok (.bipush 7, 2) := by decide +kernel
theorem dX4_init_59 : decode cX4_init 59 = .ok (.newarray .int, 2) := by decide +kernel
theorem dX4_init_61 : decode cX4_init 61 = .ok (.putfield 38, 3) := by decide +kernel
theorem dX4_init_64 : decode cX4_init 64 = .ok (.aload_n 0, 1) := by decide +kernel
theorem dX4_init_65 : decode cX4_init 65 = .ok (.sipush 896, 3) := by decide +kernel
theorem dX4_init_68 : decode cX4_init 68 = .ok (.newarray .int, 2) := by decide +kernel
theorem dX4_init_70 : decode cX4_init 70 = .ok (.putfield 41, 3) := by decide +kernel
theorem dX4_init_73 : decode cX4_init 73 = .ok (.return_, 1) := by decide +kernel
theorem dX4_tell_0 : decode cX4_tell 0 = .ok (.aload_n 0, 1) := by decide +kernel
theorem dX4_tell_1 : decode cX4_tell 1 = .ok (.aload_n 1, 1) := by decide +kernel
theorem dX4_tell_2 : decode cX4_tell 2 = .ok (.iload_n 2, 1) := by decide +kernel
theorem dX4_tell_3 : decode cX4_tell 3 = .ok (.invokevirtual 44, 3) := by decide +kernel
theorem dX4_tell_6 : decode cX4_tell 6 = .ok (.iconst 0, 1) := by decide +kernel
theorem dX4_tell_7 : decode cX4_tell 7 = .ok (.istore_n 3, 1) := by decide +kernel
theorem dX4_tell_8 : decode cX4_tell 8 = .ok (.iload_n 3, 1) := by decide +kernel
theorem dX4_tell_9 : decode cX4_tell 9 = .ok (.iconst 1, 1) := by decide +kernel
theorem dX4_tell_10 : decode cX4_tell 10 = .ok (.aload_n 0, 1) := by decide +kernel
theorem dX4_tell_11 : decode cX4_tell 11 = .ok (.getfield 21, 3) := by decide +kernel
theorem dX4_tell_14 : decode cX4_tell 14 = .ok (.ishl, 1) := by decide +kernel
theorem dX4_tell_15 : decode cX4_tell 15 = .ok (.if_icmp .ge 55, 3) := by decide +kernel
theorem dX4_tell_18 : decode cX4_tell 18 = .ok (.iconst 0, 1) := by decide +kernel
theorem dX4_tell_19 : decode cX4_tell 19 = .ok (.istore 4, 2) := by decide +kernel
theorem dX4_tell_21 : decode cX4_tell 21 = .ok (.iload 4, 2) := by decide +kernel
theorem dX4_tell_23 : decode cX4_tell 23 = .ok (.aload_n 0, 1) := by decide +kernel
theorem dX4_tell_24 : decode cX4_tell 24 = .ok (.getfield 21, 3) := by decide +kernel
theorem dX4_tell_27 : decode cX4_tell 27 = .ok (.if_icmp .ge 37, 3) := by decide +kernel
theorem dX4_tell_30 : decode cX4_tell 30 = .ok (.iload_n 3, 1) := by decide +kernel
theorem dX4_tell_31 : decode cX4_tell 31 = .ok (.iload 4, 2) := by decide +kernel
theorem dX4_tell_33 : decode cX4_tell 33 = .ok (.ishr, 1) := by decide +kernel
theorem dX4_tell_34 : decode cX4_tell 34 = .ok (.iconst 1, 1) := by decide +kernel
theorem dX4_tell_35 : decode cX4_tell 35 = .ok (.iand, 1) := by decide +kernel
theorem dX4_tell_36 : decode cX4_tell 36 = .ok (.ifCond .ne 22, 3) := by decide +kernel
theorem dX4_tell_39 : decode cX4_tell 39 = .ok (.aload_n 0, 1) := by decide +kernel
theorem dX4_tell_40 : decode cX4_tell 40 = .ok (.getfield 41, 3) := by decide +kernel
theorem dX4_tell_43 : decode cX4_tell 43 = .ok (.iload_n 3, 1) := by decide +kernel
theorem dX4_tell_44 : decode cX4_tell 44 = .ok (.bipush 7, 2) := by decide +kernel
theorem dX4_tell_46 : decode cX4_tell 46 = .ok (.imul, 1) := by decide +kernel
theorem dX4_tell_47 : decode cX4_tell 47 = .ok (.iload 4, 2) := by decide +kernel
theorem dX4_tell_49 : decode cX4_tell 49 = .ok (.iadd, 1) := by decide +kernel
theorem dX4_tell_50 : decode cX4_tell 50 = .ok (.aload_n 0, 1) := by decide +kernel
theorem dX4_tell_51 : decode cX4_tell 51 = .ok (.iload_n 3, 1) := by decide +kernel
theorem dX4_tell_52 : decode cX4_tell 52 = .ok (.iload 4, 2) := by decide +kernel
theorem dX4_tell_54 : decode cX4_tell 54 = .ok (.invokevirtual 48, 3) := by decide +kernel
theorem dX4_tell_57 : decode cX4_tell 57 = .ok (.iastore, 1) := by decide +kernel
theorem dX4_tell_58 : decode cX4_tell 58 = .ok (.iinc 4 1, 3) := by decide +kernel
theorem dX4_tell_61 : decode cX4_tell 61 = .ok (.goto (-40), 3) := by decide +kernel
theorem dX4_tell_64 : decode cX4_tell 64 = .ok (.iinc 3 1, 3) := by decide +kernel
theorem dX4_tell_67 : decode cX4_tell 67 = .ok (.goto (-59), 3) := by decide +kernel
theorem dX4_tell_70 : decode cX4_tell 70 = .ok (.aload_n 0, 1) := by decide +kernel
theorem dX4_tell_71 : decode cX4_tell 71 = .ok (.iconst 0, 1) := by decide +kernel
theorem dX4_tell_72 : decode cX4_tell 72 = .ok (.putfield 25, 3) := by decide +kernel
theorem dX4_tell_75 : decode cX4_tell 75 = .ok (.aload_n 0, 1) := by decide +kernel
theorem dX4_tell_76 : decode cX4_tell 76 = .ok (.iconst 1, 1) := by decide +kernel
theorem dX4_tell_77 : decode cX4_tell 77 = .ok (.putfield 31, 3) := by decide +kernel
theorem dX4_tell_80 : decode cX4_tell 80 = .ok (.aload_n 0, 1) := by decide +kernel
theorem dX4_tell_81 : decode cX4_tell 81 = .ok (.invokevirtual 52, 3) := by decide +kernel
theorem dX4_tell_84 : decode cX4_tell 84 = .ok (.istore_n 3, 1) := by decide +kernel
theorem dX4_tell_85 : decode cX4_tell 85 = .ok (.aload_n 0, 1) := by decide +kernel
theorem dX4_tell_86 : decode cX4_tell 86 = .ok (.getfield 15, 3) := by decide +kernel
theorem dX4_tell_89 : decode cX4_tell 89 = .ok (.iconst 0, 1) := by decide +kernel
theorem dX4_tell_90 : decode cX4_tell 90 = .ok (.aload_n 0, 1) := by decide +kernel
theorem dX4_tell_91 : decode cX4_tell 91 = .ok (.getfield 18, 3) := by decide +kernel
theorem dX4_tell_94 : decode cX4_tell 94 = .ok (.iconst 0, 1) := by decide +kernel
theorem dX4_tell_95 : decode cX4_tell 95 = .ok (.aload_n 0, 1) := by decide +kernel
theorem dX4_tell_96 : decode cX4_tell 96 = .ok (.getfield 15, 3) := by decide +kernel
theorem dX4_tell_99 : decode cX4_tell 99 = .ok (.arraylength, 1) := by decide +kernel
theorem dX4_tell_100 : decode cX4_tell 100 = .ok (.invokestatic 56, 3) := by decide +kernel
theorem dX4_tell_103 : decode cX4_tell 103 = .ok (.aload_n 0, 1) := by decide +kernel
theorem dX4_tell_104 : decode cX4_tell 104 = .ok (.aload_n 0, 1) := by decide +kernel
theorem dX4_tell_105 : decode cX4_tell 105 = .ok (.getfield 25, 3) := by decide +kernel
theorem dX4_tell_108 : decode cX4_tell 108 = .ok (.putfield 28, 3) := by decide +kernel
theorem dX4_tell_111 : decode cX4_tell 111 = .ok (.iload_n 3, 1) := by decide +kernel
theorem dX4_tell_112 : decode cX4_tell 112 = .ok (.ireturn, 1) := by decide +kernel
theorem dX4_gatherWorks_0 : decode cX4_gatherWorks 0 = .ok (.aload_n 0, 1) := by decide +kernel
theorem dX4_gatherWorks_1 : decode cX4_gatherWorks 1 = .ok (.iconst 0, 1) := by decide +kernel
theorem dX4_gatherWorks_2 : decode cX4_gatherWorks 2 = .ok (.putfield 21, 3) := by decide +kernel
theorem dX4_gatherWorks_5 : decode cX4_gatherWorks 5 = .ok (.iconst 0, 1) := by decide +kernel
theorem dX4_gatherWorks_6 : decode cX4_gatherWorks 6 = .ok (.istore_n 3, 1) := by decide +kernel
theorem dX4_gatherWorks_7 : decode cX4_gatherWorks 7 = .ok (.iload_n 3, 1) := by decide +kernel
theorem dX4_gatherWorks_8 : decode cX4_gatherWorks 8 = .ok (.aload_n 1, 1) := by decide +kernel
theorem dX4_gatherWorks_9 : decode cX4_gatherWorks 9 = .ok (.getfield 62, 3) := by decide +kernel
theorem dX4_gatherWorks_12 : decode cX4_gatherWorks 12 = .ok (.if_icmp .ge 57, 3) := by decide +kernel
theorem dX4_gatherWorks_15 : decode cX4_gatherWorks 15 = .ok (.aload_n 1, 1) := by decide +kernel
theorem dX4_gatherWorks_16 : decode cX4_gatherWorks 16 = .ok (.getfield 67, 3) := by decide +kernel
theorem dX4_gatherWorks_19 : decode cX4_gatherWorks 19 = .ok (.iload_n 3, 1) := by decide +kernel
theorem dX4_gatherWorks_20 : decode cX4_gatherWorks 20 = .ok (.iaload, 1) := by decide +kernel
theorem dX4_gatherWorks_21 : decode cX4_gatherWorks 21 = .ok (.ifCond .ne 42, 3) := by decide +kernel
theorem dX4_gatherWorks_24 : decode cX4_gatherWorks 24 = .ok (.aload_n 0, 1) := by decide +kernel
theorem dX4_gatherWorks_25 : decode cX4_gatherWorks 25 = .ok (.getfield 35, 3) := by decide +kernel
theorem dX4_gatherWorks_28 : decode cX4_gatherWorks 28 = .ok (.aload_n 0, 1) := by decide +kernel
theorem dX4_gatherWorks_29 : decode cX4_gatherWorks 29 = .ok (.getfield 21, 3) := by decide +kernel
theorem dX4_gatherWorks_32 : decode cX4_gatherWorks 32 = .ok (.iload_n 3, 1) := by decide +kernel
theorem dX4_gatherWorks_33 : decode cX4_gatherWorks 33 = .ok (.iastore, 1) := by decide +kernel
theorem dX4_gatherWorks_34 : decode cX4_gatherWorks 34 = .ok (.aload_n 0, 1) := by decide +kernel
theorem dX4_gatherWorks_35 : decode cX4_gatherWorks 35 = .ok (.getfield 38, 3) := by decide +kernel
theorem dX4_gatherWorks_38 : decode cX4_gatherWorks 38 = .ok (.aload_n 0, 1) := by decide +kernel
theorem dX4_gatherWorks_39 : decode cX4_gatherWorks 39 = .ok (.getfield 21, 3) := by decide +kernel
theorem dX4_gatherWorks_42 : decode cX4_gatherWorks 42 = .ok (.aload_n 1, 1) := by decide +kernel
theorem dX4_gatherWorks_43 : decode cX4_gatherWorks 43 = .ok (.getfield 70, 3) := by decide +kernel
theorem dX4_gatherWorks_46 : decode cX4_gatherWorks 46 = .ok (.iload_n 3, 1) := by decide +kernel
theorem dX4_gatherWorks_47 : decode cX4_gatherWorks 47 = .ok (.iaload, 1) := by decide +kernel
theorem dX4_gatherWorks_48 : decode cX4_gatherWorks 48 = .ok (.iload_n 2, 1) := by decide +kernel
theorem dX4_gatherWorks_49 : decode cX4_gatherWorks 49 = .ok (.iconst (-1), 1) := by decide +kernel
theorem dX4_gatherWorks_50 : decode cX4_gatherWorks 50 = .ok (.ixor, 1) := by decide +kernel
theorem dX4_gatherWorks_51 : decode cX4_gatherWorks 51 = .ok (.iand, 1) := by decide +kernel
theorem dX4_gatherWorks_52 : decode cX4_gatherWorks 52 = .ok (.iastore, 1) := by decide +kernel
theorem dX4_gatherWorks_53 : decode cX4_gatherWorks 53 = .ok (.aload_n 0, 1) := by decide +kernel
theorem dX4_gatherWorks_54 : decode cX4_gatherWorks 54 = .ok (.dup, 1) := by decide +kernel
theorem dX4_gatherWorks_55 : decode cX4_gatherWorks 55 = .ok (.getfield 21, 3) := by decide +kernel
theorem dX4_gatherWorks_58 : decode cX4_gatherWorks 58 = .ok (.iconst 1, 1) := by decide +kernel
theorem dX4_gatherWorks_59 : decode cX4_gatherWorks 59 = .ok (.iadd, 1) := by decide +kernel
theorem dX4_gatherWorks_60 : decode cX4_gatherWorks 60 = .ok (.putfield 21, 3) := by decide +kernel
theorem dX4_gatherWorks_63 : decode cX4_gatherWorks 63 = .ok (.iinc 3 1, 3) := by decide +kernel
theorem dX4_gatherWorks_66 : decode cX4_gatherWorks 66 = .ok (.goto (-59), 3) := by decide +kernel
theorem dX4_gatherWorks_69 : decode cX4_gatherWorks 69 = .ok (.return_, 1) := by decide +kernel
theorem dX4_fewestLeft_0 : decode cX4_fewestLeft 0 = .ok (.iload_n 1, 1) := by decide +kernel
theorem dX4_fewestLeft_1 : decode cX4_fewestLeft 1 = .ok (.ifCond .ne 13, 3) := by decide +kernel
theorem dX4_fewestLeft_4 : decode cX4_fewestLeft 4 = .ok (.aload_n 0, 1) := by decide +kernel
theorem dX4_fewestLeft_5 : decode cX4_fewestLeft 5 = .ok (.getfield 38, 3) := by decide +kernel
theorem dX4_fewestLeft_8 : decode cX4_fewestLeft 8 = .ok (.iload_n 2, 1) := by decide +kernel
theorem dX4_fewestLeft_9 : decode cX4_fewestLeft 9 = .ok (.iaload, 1) := by decide +kernel
theorem dX4_fewestLeft_10 : decode cX4_fewestLeft 10 = .ok (.invokestatic 73, 3) := by decide +kernel
theorem dX4_fewestLeft_13 : decode cX4_fewestLeft 13 = .ok (.ireturn, 1) := by decide +kernel
theorem dX4_fewestLeft_14 : decode cX4_fewestLeft 14 = .ok (.sipush 1000, 3) := by decide +kernel
theorem dX4_fewestLeft_17 : decode cX4_fewestLeft 17 = .ok (.istore_n 3, 1) := by decide +kernel
theorem dX4_fewestLeft_18 : decode cX4_fewestLeft 18 = .ok (.iconst 0, 1) := by decide +kernel
theorem dX4_fewestLeft_19 : decode cX4_fewestLeft 19 = .ok (.istore 4, 2) := by decide +kernel
theorem dX4_fewestLeft_21 : decode cX4_fewestLeft 21 = .ok (.iload 4, 2) := by decide +kernel
theorem dX4_fewestLeft_23 : decode cX4_fewestLeft 23 = .ok (.aload_n 0, 1) := by decide +kernel
theorem dX4_fewestLeft_24 : decode cX4_fewestLeft 24 = .ok (.getfield 21, 3) := by decide +kernel
theorem dX4_fewestLeft_27 : decode cX4_fewestLeft 27 = .ok (.if_icmp .ge 36, 3) := by decide +kernel
theorem dX4_fewestLeft_30 : decode cX4_fewestLeft 30 = .ok (.iload_n 1, 1) := by decide +kernel
theorem dX4_fewestLeft_31 : decode cX4_fewestLeft 31 = .ok (.iload 4, 2) := by decide +kernel
theorem dX4_fewestLeft_33 : decode cX4_fewestLeft 33 = .ok (.ishr, 1) := by decide +kernel
theorem dX4_fewestLeft_34 : decode cX4_fewestLeft 34 = .ok (.iconst 1, 1) := by decide +kernel
theorem dX4_fewestLeft_35 : decode cX4_fewestLeft 35 = .ok (.iand, 1) := by decide +kernel
theorem dX4_fewestLeft_36 : decode cX4_fewestLeft 36 = .ok (.ifCond .eq 21, 3) := by decide +kernel
theorem dX4_fewestLeft_39 : decode cX4_fewestLeft 39 = .ok (.iload_n 3, 1) := by decide +kernel
theorem dX4_fewestLeft_40 : decode cX4_fewestLeft 40 = .ok (.aload_n 0, 1) := by decide +kernel
theorem dX4_fewestLeft_41 : decode cX4_fewestLeft 41 = .ok (.aload_n 0, 1) := by decide +kernel
theorem dX4_fewestLeft_42 : decode cX4_fewestLeft 42 = .ok (.getfield 38, 3) := by decide +kernel
theorem dX4_fewestLeft_45 : decode cX4_fewestLeft 45 = .ok (.iload_n 2, 1) := by decide +kernel
theorem dX4_fewestLeft_46 : decode cX4_fewestLeft 46 = .ok (.iaload, 1) := by decide +kernel
theorem dX4_fewestLeft_47 : decode cX4_fewestLeft 47 = .ok (.iload 4, 2) := by decide +kernel
theorem dX4_fewestLeft_49 : decode cX4_fewestLeft 49 = .ok (.iload_n 1, 1) := by decide +kernel
theorem dX4_fewestLeft_50 : decode cX4_fewestLeft 50 = .ok (.invokevirtual 79, 3) := by decide +kernel
theorem dX4_fewestLeft_53 : decode cX4_fewestLeft 53 = .ok (.invokestatic 83, 3) := by decide +kernel
theorem dX4_fewestLeft_56 : decode cX4_fewestLeft 56 = .ok (.istore_n 3, 1) := by decide +kernel
theorem dX4_fewestLeft_57 : decode cX4_fewestLeft 57 = .ok (.iinc 4 1, 3) := by decide +kernel
theorem dX4_fewestLeft_60 : decode cX4_fewestLeft 60 = .ok (.goto (-39), 3) := by decide +kernel
theorem dX4_fewestLeft_63 : decode cX4_fewestLeft 63 = .ok (.iload_n 3, 1) := by decide +kernel
theorem dX4_fewestLeft_64 : decode cX4_fewestLeft 64 = .ok (.ireturn, 1) := by decide +kernel
theorem dX4_movesThrough_0 : decode cX4_movesThrough 0 = .ok (.iload_n 3, 1) := by decide +kernel
theorem dX4_movesThrough_1 : decode cX4_movesThrough 1 = .ok (.iconst 1, 1) := by decide +kernel
theorem dX4_movesThrough_2 : decode cX4_movesThrough 2 = .ok (.iload_n 2, 1) := by decide +kernel
theorem dX4_movesThrough_3 : decode cX4_movesThrough 3 = .ok (.ishl, 1) := by decide +kernel
theorem dX4_movesThrough_4 : decode cX4_movesThrough 4 = .ok (.iconst (-1), 1) := by decide +kernel
theorem dX4_movesThrough_5 : decode cX4_movesThrough 5 = .ok (.ixor, 1) := by decide +kernel
theorem dX4_movesThrough_6 : decode cX4_movesThrough 6 = .ok (.iand, 1) := by decide +kernel
theorem dX4_movesThrough_7 : decode cX4_movesThrough 7 = .ok (.istore 4, 2) := by decide +kernel
theorem dX4_movesThrough_9 : decode cX4_movesThrough 9 = .ok (.iload_n 1, 1) := by decide +kernel
theorem dX4_movesThrough_10 : decode cX4_movesThrough 10 = .ok (.aload_n 0, 1) := by decide +kernel
theorem dX4_movesThrough_11 : decode cX4_movesThrough 11 = .ok (.getfield 38, 3) := by decide +kernel
theorem dX4_movesThrough_14 : decode cX4_movesThrough 14 = .ok (.iload_n 2, 1) := by decide +kernel
theorem dX4_movesThrough_15 : decode cX4_movesThrough 15 = .ok (.iaload, 1) := by decide +kernel
theorem dX4_movesThrough_16 : decode cX4_movesThrough 16 = .ok (.ixor, 1) := by decide +kernel
theorem dX4_movesThrough_17 : decode cX4_movesThrough 17 = .ok (.invokestatic 73, 3) := by decide +kernel
theorem dX4_movesThrough_20 : decode cX4_movesThrough 20 = .ok (.aload_n 0, 1) := by decide +kernel
theorem dX4_movesThrough_21 : decode cX4_movesThrough 21 = .ok (.getfield 41, 3) := by decide +kernel
theorem dX4_movesThrough_24 : decode cX4_movesThrough 24 = .ok (.iload 4, 2) := by decide +kernel
theorem dX4_movesThrough_26 : decode cX4_movesThrough 26 = .ok (.bipush 7, 2) := by decide +kernel
theorem dX4_movesThrough_28 : decode cX4_movesThrough 28 = .ok (.imul, 1) := by decide +kernel
theorem dX4_movesThrough_29 : decode cX4_movesThrough 29 = .ok (.iload_n 2, 1) := by decide +kernel
theorem dX4_movesThrough_30 : decode cX4_movesThrough 30 = .ok (.iadd, 1) := by decide +kernel
theorem dX4_movesThrough_31 : decode cX4_movesThrough 31 = .ok (.iaload, 1) := by decide +kernel
theorem dX4_movesThrough_32 : decode cX4_movesThrough 32 = .ok (.iadd, 1) := by decide +kernel
theorem dX4_movesThrough_33 : decode cX4_movesThrough 33 = .ok (.ireturn, 1) := by decide +kernel
theorem dX4_layOrder_0 : decode cX4_layOrder 0 = .ok (.iconst 1, 1) := by decide +kernel
theorem dX4_layOrder_1 : decode cX4_layOrder 1 = .ok (.aload_n 0, 1) := by decide +kernel
theorem dX4_layOrder_2 : decode cX4_layOrder 2 = .ok (.getfield 21, 3) := by decide +kernel
theorem dX4_layOrder_5 : decode cX4_layOrder 5 = .ok (.ishl, 1) := by decide +kernel
theorem dX4_layOrder_6 : decode cX4_layOrder 6 = .ok (.iconst 1, 1) := by decide +kernel
theorem dX4_layOrder_7 : decode cX4_layOrder 7 = .ok (.isub, 1) := by decide +kernel
theorem dX4_layOrder_8 : decode cX4_layOrder 8 = .ok (.istore_n 1, 1) := by decide +kernel
theorem dX4_layOrder_9 : decode cX4_layOrder 9 = .ok (.iconst 0, 1) := by decide +kernel
theorem dX4_layOrder_10 : decode cX4_layOrder 10 = .ok (.istore_n 2, 1) := by decide +kernel
theorem dX4_layOrder_11 : decode cX4_layOrder 11 = .ok (.iconst 0, 1) := by decide +kernel
theorem dX4_layOrder_12 : decode cX4_layOrder 12 = .ok (.istore_n 3, 1) := by decide +kernel
theorem dX4_layOrder_13 : decode cX4_layOrder 13 = .ok (.iconst 0, 1) := by decide +kernel
theorem dX4_layOrder_14 : decode cX4_layOrder 14 = .ok (.istore 4, 2) := by decide +kernel
theorem dX4_layOrder_16 : decode cX4_layOrder 16 = .ok (.iconst 0, 1) := by decide +kernel
theorem dX4_layOrder_17 : decode cX4_layOrder 17 = .ok (.istore 5, 2) := by decide +kernel
theorem dX4_layOrder_19 : decode cX4_layOrder 19 = .ok (.iload 5, 2) := by decide +kernel
theorem dX4_layOrder_21 : decode cX4_layOrder 21 = .ok (.aload_n 0, 1) := by decide +kernel
theorem dX4_layOrder_22 : decode cX4_layOrder 22 = .ok (.getfield 21, 3) := by decide +kernel
theorem dX4_layOrder_25 : decode cX4_layOrder 25 = .ok (.if_icmp .ge 78, 3) := by decide +kernel
theorem dX4_layOrder_28 : decode cX4_layOrder 28 = .ok (.aload_n 0, 1) := by decide +kernel
theorem dX4_layOrder_29 : decode cX4_layOrder 29 = .ok (.iload 5, 2) := by decide +kernel
theorem dX4_layOrder_31 : decode cX4_layOrder 31 = .ok (.iload_n 1, 1) := by decide +kernel
theorem dX4_layOrder_32 : decode cX4_layOrder 32 = .ok (.iload_n 2, 1) := by decide +kernel
theorem dX4_layOrder_33 : decode cX4_layOrder 33 = .ok (.iload_n 3, 1) := by decide +kernel
theorem dX4_layOrder_34 : decode cX4_layOrder 34 = .ok (.invokevirtual 88, 3) := by decide +kernel
theorem dX4_layOrder_37 : decode cX4_layOrder 37 = .ok (.istore 6, 2) := by decide +kernel
theorem dX4_layOrder_39 : decode cX4_layOrder 39 = .ok (.iload_n 3, 1) := by decide +kernel
theorem dX4_layOrder_40 : decode cX4_layOrder 40 = .ok (.aload_n 0, 1) := by decide +kernel
theorem dX4_layOrder_41 : decode cX4_layOrder 41 = .ok (.iload_n 2, 1) := by decide +kernel
theorem dX4_layOrder_42 : decode cX4_layOrder 42 = .ok (.iload 6, 2) := by decide +kernel
theorem dX4_layOrder_44 : decode cX4_layOrder 44 = .ok (.iload_n 1, 1) := by decide +kernel
theorem dX4_layOrder_45 : decode cX4_layOrder 45 = .ok (.invokevirtual 79, 3) := by decide +kernel
theorem dX4_layOrder_48 : decode cX4_layOrder 48 = .ok (.iadd, 1) := by decide +kernel
theorem dX4_layOrder_49 : decode cX4_layOrder 49 = .ok (.istore 4, 2) := by decide +kernel
theorem dX4_layOrder_51 : decode cX4_layOrder 51 = .ok (.iload_n 3, 1) := by decide +kernel
theorem dX4_layOrder_52 : decode cX4_layOrder 52 = .ok (.iload_n 2, 1) := by decide +kernel
theorem dX4_layOrder_53 : decode cX4_layOrder 53 = .ok (.aload_n 0, 1) := by decide +kernel
theorem dX4_layOrder_54 : decode cX4_layOrder 54 = .ok (.getfield 38, 3) := by decide +kernel
theorem dX4_layOrder_57 : decode cX4_layOrder 57 = .ok (.iload 6, 2) := by decide +kernel
theorem dX4_layOrder_59 : decode cX4_layOrder 59 = .ok (.iaload, 1) := by decide +kernel
theorem dX4_layOrder_60 : decode cX4_layOrder 60 = .ok (.ixor, 1) := by decide +kernel
theorem dX4_layOrder_61 : decode cX4_layOrder 61 = .ok (.invokestatic 73, 3) := by decide +kernel
theorem dX4_layOrder_64 : decode cX4_layOrder 64 = .ok (.iadd, 1) := by decide +kernel
theorem dX4_layOrder_65 : decode cX4_layOrder 65 = .ok (.istore_n 3, 1) := by decide +kernel
theorem dX4_layOrder_66 : decode cX4_layOrder 66 = .ok (.aload_n 0, 1) := by decide +kernel
theorem dX4_layOrder_67 : decode cX4_layOrder 67 = .ok (.getfield 38, 3) := by decide +kernel
theorem dX4_layOrder_70 : decode cX4_layOrder 70 = .ok (.iload 6, 2) := by decide +kernel
theorem dX4_layOrder_72 : decode cX4_layOrder 72 = .ok (.iaload, 1) := by decide +kernel
theorem dX4_layOrder_73 : decode cX4_layOrder 73 = .ok (.istore_n 2, 1) := by decide +kernel
theorem dX4_layOrder_74 : decode cX4_layOrder 74 = .ok (.iload_n 1, 1) := by decide +kernel
theorem dX4_layOrder_75 : decode cX4_layOrder 75 = .ok (.iconst 1, 1) := by decide +kernel
theorem dX4_layOrder_76 : decode cX4_layOrder 76 = .ok (.iload 6, 2) := by decide +kernel
theorem dX4_layOrder_78 : decode cX4_layOrder 78 = .ok (.ishl, 1) := by decide +kernel
theorem dX4_layOrder_79 : decode cX4_layOrder 79 = .ok (.iconst (-1), 1) := by decide +kernel
theorem dX4_layOrder_80 : decode cX4_layOrder 80 = .ok (.ixor, 1) := by decide +kernel
theorem dX4_layOrder_81 : decode cX4_layOrder 81 = .ok (.iand, 1) := by decide +kernel
theorem dX4_layOrder_82 : decode cX4_layOrder 82 = .ok (.istore_n 1, 1) := by decide +kernel
theorem dX4_layOrder_83 : decode cX4_layOrder 83 = .ok (.aload_n 0, 1) := by decide +kernel
theorem dX4_layOrder_84 : decode cX4_layOrder 84 = .ok (.getfield 9, 3) := by decide +kernel
theorem dX4_layOrder_87 : decode cX4_layOrder 87 = .ok (.iload 5, 2) := by decide +kernel
theorem dX4_layOrder_89 : decode cX4_layOrder 89 = .ok (.aload_n 0, 1) := by decide +kernel
theorem dX4_layOrder_90 : decode cX4_layOrder 90 = .ok (.getfield 35, 3) := by decide +kernel
theorem dX4_layOrder_93 : decode cX4_layOrder 93 = .ok (.iload 6, 2) := by decide +kernel
theorem dX4_layOrder_95 : decode cX4_layOrder 95 = .ok (.iaload, 1) := by decide +kernel
theorem dX4_layOrder_96 : decode cX4_layOrder 96 = .ok (.iastore, 1) := by decide +kernel
theorem dX4_layOrder_97 : decode cX4_layOrder 97 = .ok (.iinc 5 1, 3) := by decide +kernel
theorem dX4_layOrder_100 : decode cX4_layOrder 100 = .ok (.goto (-81), 3) := by decide +kernel
theorem dX4_layOrder_103 : decode cX4_layOrder 103 = .ok (.iload 4, 2) := by decide +kernel
theorem dX4_layOrder_105 : decode cX4_layOrder 105 = .ok (.ireturn, 1) := by decide +kernel
theorem dX4_bestWork_0 : decode cX4_bestWork 0 = .ok (.iconst 0, 1) := by decide +kernel
theorem dX4_bestWork_1 : decode cX4_bestWork 1 = .ok (.istore 5, 2) := by decide +kernel
theorem dX4_bestWork_3 : decode cX4_bestWork 3 = .ok (.sipush 1000, 3) := by decide +kernel
theorem dX4_bestWork_6 : decode cX4_bestWork 6 = .ok (.istore 6, 2) := by decide +kernel
theorem dX4_bestWork_8 : decode cX4_bestWork 8 = .ok (.iconst 0, 1) := by decide +kernel
theorem dX4_bestWork_9 : decode cX4_bestWork 9 = .ok (.istore 7, 2) := by decide +kernel
theorem dX4_bestWork_11 : decode cX4_bestWork 11 = .ok (.iload 7, 2) := by decide +kernel
theorem dX4_bestWork_13 : decode cX4_bestWork 13 = .ok (.aload_n 0, 1) := by decide +kernel
theorem dX4_bestWork_14 : decode cX4_bestWork 14 = .ok (.getfield 21, 3) := by decide +kernel
theorem dX4_bestWork_17 : decode cX4_bestWork 17 = .ok (.if_icmp .ge 60, 3) := by decide +kernel
theorem dX4_bestWork_20 : decode cX4_bestWork 20 = .ok (.iload_n 2, 1) := by decide +kernel
theorem dX4_bestWork_21 : decode cX4_bestWork 21 = .ok (.iload 7, 2) := by decide +kernel
theorem dX4_bestWork_23 : decode cX4_bestWork 23 = .ok (.ishr, 1) := by decide +kernel
theorem dX4_bestWork_24 : decode cX4_bestWork 24 = .ok (.iconst 1, 1) := by decide +kernel
theorem dX4_bestWork_25 : decode cX4_bestWork 25 = .ok (.iand, 1) := by decide +kernel
theorem dX4_bestWork_26 : decode cX4_bestWork 26 = .ok (.ifCond .eq 45, 3) := by decide +kernel
theorem dX4_bestWork_29 : decode cX4_bestWork 29 = .ok (.iload 4, 2) := by decide +kernel
theorem dX4_bestWork_31 : decode cX4_bestWork 31 = .ok (.aload_n 0, 1) := by decide +kernel
theorem dX4_bestWork_32 : decode cX4_bestWork 32 = .ok (.iload_n 3, 1) := by decide +kernel
theorem dX4_bestWork_33 : decode cX4_bestWork 33 = .ok (.iload 7, 2) := by decide +kernel
theorem dX4_bestWork_35 : decode cX4_bestWork 35 = .ok (.iload_n 2, 1) := by decide +kernel
theorem dX4_bestWork_36 : decode cX4_bestWork 36 = .ok (.invokevirtual 79, 3) := by decide +kernel
theorem dX4_bestWork_39 : decode cX4_bestWork 39 = .ok (.iadd, 1) := by decide +kernel
theorem dX4_bestWork_40 : decode cX4_bestWork 40 = .ok (.istore 8, 2) := by decide +kernel
theorem dX4_bestWork_42 : decode cX4_bestWork 42 = .ok (.aload_n 0, 1) := by decide +kernel
theorem dX4_bestWork_43 : decode cX4_bestWork 43 = .ok (.iload_n 1, 1) := by decide +kernel
theorem dX4_bestWork_44 : decode cX4_bestWork 44 = .ok (.aload_n 0, 1) := by decide +kernel
theorem dX4_bestWork_45 : decode cX4_bestWork 45 = .ok (.getfield 35, 3) := by decide +kernel
theorem dX4_bestWork_48 : decode cX4_bestWork 48 = .ok (.iload 7, 2) := by decide +kernel
theorem dX4_bestWork_50 : decode cX4_bestWork 50 = .ok (.iaload, 1) := by decide +kernel
theorem dX4_bestWork_51 : decode cX4_bestWork 51 = .ok (.iload 8, 2) := by decide +kernel
theorem dX4_bestWork_53 : decode cX4_bestWork 53 = .ok (.invokevirtual 92, 3) := by decide +kernel
theorem dX4_bestWork_56 : decode cX4_bestWork 56 = .ok (.iload 8, 2) := by decide +kernel
theorem dX4_bestWork_58 : decode cX4_bestWork 58 = .ok (.iload 6, 2) := by decide +kernel
theorem dX4_bestWork_60 : decode cX4_bestWork 60 = .ok (.if_icmp .ge 11, 3) := by decide +kernel
theorem dX4_bestWork_63 : decode cX4_bestWork 63 = .ok (.iload 8, 2) := by decide +kernel
theorem dX4_bestWork_65 : decode cX4_bestWork 65 = .ok (.istore 6, 2) := by decide +kernel
theorem dX4_bestWork_67 : decode cX4_bestWork 67 = .ok (.iload 7, 2) := by decide +kernel
theorem dX4_bestWork_69 : decode cX4_bestWork 69 = .ok (.istore 5, 2) := by decide +kernel
theorem dX4_bestWork_71 : decode cX4_bestWork 71 = .ok (.iinc 7 1, 3) := by decide +kernel
theorem dX4_bestWork_74 : decode cX4_bestWork 74 = .ok (.goto (-63), 3) := by decide +kernel
theorem dX4_bestWork_77 : decode cX4_bestWork 77 = .ok (.iload 5, 2) := by decide +kernel
theorem dX4_bestWork_79 : decode cX4_bestWork 79 = .ok (.ireturn, 1) := by decide +kernel
theorem dX4_addRow_0 : decode cX4_addRow 0 = .ok (.aload_n 0, 1) := by decide +kernel
theorem dX4_addRow_1 : decode cX4_addRow 1 = .ok (.getfield 25, 3) := by decide +kernel
theorem dX4_addRow_4 : decode cX4_addRow 4 = .ok (.bipush 28, 2) := by decide +kernel
theorem dX4_addRow_6 : decode cX4_addRow 6 = .ok (.if_icmp .lt 4, 3) := by decide +kernel
theorem dX4_addRow_9 : decode cX4_addRow 9 = .ok (.return_, 1) := by decide +kernel
theorem dX4_addRow_10 : decode cX4_addRow 10 = .ok (.aload_n 0, 1) := by decide +kernel
theorem dX4_addRow_11 : decode cX4_addRow 11 = .ok (.getfield 15, 3) := by decide +kernel
theorem dX4_addRow_14 : decode cX4_addRow 14 = .ok (.aload_n 0, 1) := by decide +kernel
theorem dX4_addRow_15 : decode cX4_addRow 15 = .ok (.getfield 25, 3) := by decide +kernel
theorem dX4_addRow_18 : decode cX4_addRow 18 = .ok (.iconst 3, 1) := by decide +kernel
theorem dX4_addRow_19 : decode cX4_addRow 19 = .ok (.imul, 1) := by decide +kernel
theorem dX4_addRow_20 : decode cX4_addRow 20 = .ok (.iload_n 1, 1) := by decide +kernel
theorem dX4_addRow_21 : decode cX4_addRow 21 = .ok (.iastore, 1) := by decide +kernel
theorem dX4_addRow_22 : decode cX4_addRow 22 = .ok (.aload_n 0, 1) := by decide +kernel
theorem dX4_addRow_23 : decode cX4_addRow 23 = .ok (.getfield 15, 3) := by decide +kernel
theorem dX4_addRow_26 : decode cX4_addRow 26 = .ok (.aload_n 0, 1) := by decide +kernel
theorem dX4_addRow_27 : decode cX4_addRow 27 = .ok (.getfield 25, 3) := by decide +kernel
theorem dX4_addRow_30 : decode cX4_addRow 30 = .ok (.iconst 3, 1) := by decide +kernel
theorem dX4_addRow_31 : decode cX4_addRow 31 = .ok (.imul, 1) := by decide +kernel
theorem dX4_addRow_32 : decode cX4_addRow 32 = .ok (.iconst 1, 1) := by decide +kernel
theorem dX4_addRow_33 : decode cX4_addRow 33 = .ok (.iadd, 1) := by decide +kernel
theorem dX4_addRow_34 : decode cX4_addRow 34 = .ok (.iload_n 2, 1) := by decide +kernel
theorem dX4_addRow_35 : decode cX4_addRow 35 = .ok (.iastore, 1) := by decide +kernel
theorem dX4_addRow_36 : decode cX4_addRow 36 = .ok (.aload_n 0, 1) := by decide +kernel
theorem dX4_addRow_37 : decode cX4_addRow 37 = .ok (.getfield 15, 3) := by decide +kernel
theorem dX4_addRow_40 : decode cX4_addRow 40 = .ok (.aload_n 0, 1) := by decide +kernel
theorem dX4_addRow_41 : decode cX4_addRow 41 = .ok (.getfield 25, 3) := by decide +kernel
theorem dX4_addRow_44 : decode cX4_addRow 44 = .ok (.iconst 3, 1) := by decide +kernel
theorem dX4_addRow_45 : decode cX4_addRow 45 = .ok (.imul, 1) := by decide +kernel
theorem dX4_addRow_46 : decode cX4_addRow 46 = .ok (.iconst 2, 1) := by decide +kernel
theorem dX4_addRow_47 : decode cX4_addRow 47 = .ok (.iadd, 1) := by decide +kernel
theorem dX4_addRow_48 : decode cX4_addRow 48 = .ok (.iload_n 3, 1) := by decide +kernel
theorem dX4_addRow_49 : decode cX4_addRow 49 = .ok (.iastore, 1) := by decide +kernel
theorem dX4_addRow_50 : decode cX4_addRow 50 = .ok (.aload_n 0, 1) := by decide +kernel
theorem dX4_addRow_51 : decode cX4_addRow 51 = .ok (.dup, 1) := by decide +kernel
theorem dX4_addRow_52 : decode cX4_addRow 52 = .ok (.getfield 25, 3) := by decide +kernel
theorem dX4_addRow_55 : decode cX4_addRow 55 = .ok (.iconst 1, 1) := by decide +kernel
theorem dX4_addRow_56 : decode cX4_addRow 56 = .ok (.iadd, 1) := by decide +kernel
theorem dX4_addRow_57 : decode cX4_addRow 57 = .ok (.putfield 25, 3) := by decide +kernel
theorem dX4_addRow_60 : decode cX4_addRow 60 = .ok (.return_, 1) := by decide +kernel
theorem dX4_firstWrongRow_0 : decode cX4_firstWrongRow 0 = .ok (.iconst 0, 1) := by decide +kernel
theorem dX4_firstWrongRow_1 : decode cX4_firstWrongRow 1 = .ok (.istore_n 1, 1) := by decide +kernel
theorem dX4_firstWrongRow_2 : decode cX4_firstWrongRow 2 = .ok (.iload_n 1, 1) := by decide +kernel
theorem dX4_firstWrongRow_3 : decode cX4_firstWrongRow 3 = .ok (.aload_n 0, 1) := by decide +kernel
theorem dX4_firstWrongRow_4 : decode cX4_firstWrongRow 4 = .ok (.getfield 28, 3) := by decide +kernel
theorem dX4_firstWrongRow_7 : decode cX4_firstWrongRow 7 = .ok (.iconst 3, 1) := by decide +kernel
theorem dX4_firstWrongRow_8 : decode cX4_firstWrongRow 8 = .ok (.imul, 1) := by decide +kernel
theorem dX4_firstWrongRow_9 : decode cX4_firstWrongRow 9 = .ok (.if_icmp .ge 28, 3) := by decide +kernel
theorem dX4_firstWrongRow_12 : decode cX4_firstWrongRow 12 = .ok (.aload_n 0, 1) := by decide +kernel
theorem dX4_firstWrongRow_13 : decode cX4_firstWrongRow 13 = .ok (.getfield 18, 3) := by decide +kernel
theorem dX4_firstWrongRow_16 : decode cX4_firstWrongRow 16 = .ok (.iload_n 1, 1) := by decide +kernel
theorem dX4_firstWrongRow_17 : decode cX4_firstWrongRow 17 = .ok (.iaload, 1) := by decide +kernel
theorem dX4_firstWrongRow_18 : decode cX4_firstWrongRow 18 = .ok (.aload_n 0, 1) := by decide +kernel
theorem dX4_firstWrongRow_19 : decode cX4_firstWrongRow 19 = .ok (.getfield 15, 3) := by decide +kernel
theorem dX4_firstWrongRow_22 : decode cX4_firstWrongRow 22 = .ok (.iload_n 1, 1) := by decide +kernel
theorem dX4_firstWrongRow_23 : decode cX4_firstWrongRow 23 = .ok (.iaload, 1) := by decide +kernel
theorem dX4_firstWrongRow_24 : decode cX4_firstWrongRow 24 = .ok (.if_icmp .eq 7, 3) := by decide +kernel
theorem dX4_firstWrongRow_27 : decode cX4_firstWrongRow 27 = .ok (.iload_n 1, 1) := by decide +kernel
theorem dX4_firstWrongRow_28 : decode cX4_firstWrongRow 28 = .ok (.iconst 3, 1) := by decide +kernel
theorem dX4_firstWrongRow_29 : decode cX4_firstWrongRow 29 = .ok (.idiv, 1) := by decide +kernel
theorem dX4_firstWrongRow_30 : decode cX4_firstWrongRow 30 = .ok (.ireturn, 1) := by decide +kernel
theorem dX4_firstWrongRow_31 : decode cX4_firstWrongRow 31 = .ok (.iinc 1 1, 3) := by decide +kernel
theorem dX4_firstWrongRow_34 : decode cX4_firstWrongRow 34 = .ok (.goto (-32), 3) := by decide +kernel
theorem dX4_firstWrongRow_37 : decode cX4_firstWrongRow 37 = .ok (.aload_n 0, 1) := by decide +kernel
theorem dX4_firstWrongRow_38 : decode cX4_firstWrongRow 38 = .ok (.getfield 28, 3) := by decide +kernel
theorem dX4_firstWrongRow_41 : decode cX4_firstWrongRow 41 = .ok (.aload_n 0, 1) := by decide +kernel
theorem dX4_firstWrongRow_42 : decode cX4_firstWrongRow 42 = .ok (.getfield 25, 3) := by decide +kernel
theorem dX4_firstWrongRow_45 : decode cX4_firstWrongRow 45 = .ok (.if_icmp .ge 10, 3) := by decide +kernel
theorem dX4_firstWrongRow_48 : decode cX4_firstWrongRow 48 = .ok (.aload_n 0, 1) := by decide +kernel
theorem dX4_firstWrongRow_49 : decode cX4_firstWrongRow 49 = .ok (.getfield 28, 3) := by decide +kernel
theorem dX4_firstWrongRow_52 : decode cX4_firstWrongRow 52 = .ok (.goto 4, 3) := by decide +kernel
theorem dX4_firstWrongRow_55 : decode cX4_firstWrongRow 55 = .ok (.iconst (-1), 1) := by decide +kernel
theorem dX4_firstWrongRow_56 : decode cX4_firstWrongRow 56 = .ok (.ireturn, 1) := by decide +kernel
theorem dX5_init_0 : decode cX5_init 0 = .ok (.aload_n 0, 1) := by decide +kernel
theorem dX5_init_1 : decode cX5_init 1 = .ok (.invokespecial 3, 3) := by decide +kernel
theorem dX5_init_4 : decode cX5_init 4 = .ok (.aload_n 0, 1) := by decide +kernel
theorem dX5_init_5 : decode cX5_init 5 = .ok (.new 9, 3) := by decide +kernel
theorem dX5_init_8 : decode cX5_init 8 = .ok (.dup, 1) := by decide +kernel
theorem dX5_init_9 : decode cX5_init 9 = .ok (.invokespecial 11, 3) := by decide +kernel
theorem dX5_init_12 : decode cX5_init 12 = .ok (.putfield 12, 3) := by decide +kernel
theorem dX5_init_15 : decode cX5_init 15 = .ok (.aload_n 0, 1) := by decide +kernel
theorem dX5_init_16 : decode cX5_init 16 = .ok (.new 18, 3) := by decide +kernel
theorem dX5_init_19 : decode cX5_init 19 = .ok (.dup, 1) := by decide +kernel
theorem dX5_init_20 : decode cX5_init 20 = .ok (.invokespecial 20, 3) := by decide +kernel
theorem dX5_init_23 : decode cX5_init 23 = .ok (.putfield 21, 3) := by decide +kernel
theorem dX5_init_26 : decode cX5_init 26 = .ok (.aload_n 0, 1) := by decide +kernel
theorem dX5_init_27 : decode cX5_init 27 = .ok (.new 25, 3) := by decide +kernel
theorem dX5_init_30 : decode cX5_init 30 = .ok (.dup, 1) := by decide +kernel
theorem dX5_init_31 : decode cX5_init 31 = .ok (.invokespecial 27, 3) := by decide +kernel
theorem dX5_init_34 : decode cX5_init 34 = .ok (.putfield 28, 3) := by decide +kernel
theorem dX5_init_37 : decode cX5_init 37 = .ok (.aload_n 0, 1) := by decide +kernel
theorem dX5_init_38 : decode cX5_init 38 = .ok (.new 32, 3) := by decide +kernel
theorem dX5_init_41 : decode cX5_init 41 = .ok (.dup, 1) := by decide +kernel
theorem dX5_init_42 : decode cX5_init 42 = .ok (.invokespecial 34, 3) := by decide +kernel
theorem dX5_init_45 : decode cX5_init 45 = .ok (.putfield 35, 3) := by decide +kernel
theorem dX5_init_48 : decode cX5_init 48 = .ok (.return_, 1) := by decide +kernel
theorem dX5_closedNow_0 : decode cX5_closedNow 0 = .ok (.aload_n 0, 1) := by decide +kernel
theorem dX5_closedNow_1 : decode cX5_closedNow 1 = .ok (.getfield 12, 3) := by decide +kernel
theorem dX5_closedNow_4 : decode cX5_closedNow 4 = .ok (.getfield 39, 3) := by decide +kernel
theorem dX5_closedNow_7 : decode cX5_closedNow 7 = .ok (.aload_n 0, 1) := by decide +kernel
theorem dX5_closedNow_8 : decode cX5_closedNow 8 = .ok (.getfield 28, 3) := by decide +kernel
theorem dX5_closedNow_11 : decode cX5_closedNow 11 = .ok (.invokevirtual 43, 3) := by decide +kernel
theorem dX5_closedNow_14 : decode cX5_closedNow 14 = .ok (.ior, 1) := by decide +kernel
theorem dX5_closedNow_15 : decode cX5_closedNow 15 = .ok (.ireturn, 1) := by decide +kernel
theorem dX5_firstBar_0 : decode cX5_firstBar 0 = .ok (.getstatic 47, 3) := by decide +kernel
theorem dX5_firstBar_3 : decode cX5_firstBar 3 = .ok (.iload_n 2, 1) := by decide +kernel
theorem dX5_firstBar_4 : decode cX5_firstBar 4 = .ok (.iaload, 1) := by decide +kernel
theorem dX5_firstBar_5 : decode cX5_firstBar 5 = .ok (.aload_n 0, 1) := by decide +kernel
theorem dX5_firstBar_6 : decode cX5_firstBar 6 = .ok (.getfield 28, 3) := by decide +kernel
theorem dX5_firstBar_9 : decode cX5_firstBar 9 = .ok (.getfield 51, 3) := by decide +kernel
theorem dX5_firstBar_12 : decode cX5_firstBar 12 = .ok (.iload_n 1, 1) := by decide +kernel
theorem dX5_firstBar_13 : decode cX5_firstBar 13 = .ok (.iaload, 1) := by decide +kernel
theorem dX5_firstBar_14 : decode cX5_firstBar 14 = .ok (.ishr, 1) := by decide +kernel
theorem dX5_firstBar_15 : decode cX5_firstBar 15 = .ok (.iconst 1, 1) := by decide +kernel
theorem dX5_firstBar_16 : decode cX5_firstBar 16 = .ok (.iand, 1) := by decide +kernel
theorem dX5_firstBar_17 : decode cX5_firstBar 17 = .ok (.ifCond .ne 5, 3) := by decide +kernel
theorem dX5_firstBar_20 : decode cX5_firstBar 20 = .ok (.iconst 1, 1) := by decide +kernel
theorem dX5_firstBar_21 : decode cX5_firstBar 21 = .ok (.ireturn, 1) := by decide +kernel
theorem dX5_firstBar_22 : decode cX5_firstBar 22 = .ok (.iload_n 2, 1) := by decide +kernel
theorem dX5_firstBar_23 : decode cX5_firstBar 23 = .ok (.tableswitch 68 2 5 #[29, 36, 54, 61], 29) := by decide +kernel
theorem dX5_firstBar_52 : decode cX5_firstBar 52 = .ok (.aload_n 0, 1) := by decide +kernel
theorem dX5_firstBar_53 : decode cX5_firstBar 53 = .ok (.iload_n 1, 1) := by decide +kernel
theorem dX5_firstBar_54 : decode cX5_firstBar 54 = .ok (.iload_n 3, 1) := by decide +kernel
theorem dX5_firstBar_55 : decode cX5_firstBar 55 = .ok (.invokevirtual 54, 3) := by decide +kernel
theorem dX5_firstBar_58 : decode cX5_firstBar 58 = .ok (.ireturn, 1) := by decide +kernel
theorem dX5_firstBar_59 : decode cX5_firstBar 59 = .ok (.aload_n 0, 1) := by decide +kernel
theorem dX5_firstBar_60 : decode cX5_firstBar 60 = .ok (.getfield 35, 3) := by decide +kernel
theorem dX5_firstBar_63 : decode cX5_firstBar 63 = .ok (.iload_n 1, 1) := by decide +kernel
theorem dX5_firstBar_64 : decode cX5_firstBar 64 = .ok (.invokevirtual 58, 3) := by decide +kernel
theorem dX5_firstBar_67 : decode cX5_firstBar 67 = .ok (.ifCond .le 8, 3) := by decide +kernel
theorem dX5_firstBar_70 : decode cX5_firstBar 70 = .ok (.bipush 7, 2) := by decide +kernel
theorem dX5_firstBar_72 : decode cX5_firstBar 72 = .ok (.goto 4, 3) := by decide +kernel
theorem dX5_firstBar_75 : decode cX5_firstBar 75 = .ok (.iconst 0, 1) := by decide +kernel
theorem dX5_firstBar_76 : decode cX5_firstBar 76 = .ok (.ireturn, 1) := by decide +kernel
theorem dX5_firstBar_77 : decode cX5_firstBar 77 = .ok (.aload_n 0, 1) := by decide +kernel
theorem dX5_firstBar_78 : decode cX5_firstBar 78 = .ok (.iload_n 1, 1) := by decide +kernel
theorem dX5_firstBar_79 : decode cX5_firstBar 79 = .ok (.iload_n 3, 1) := by decide +kernel
theorem dX5_firstBar_80 : decode cX5_firstBar 80 = .ok (.invokevirtual 62, 3) := by decide +kernel
theorem dX5_firstBar_83 : decode cX5_firstBar 83 = .ok (.ireturn, 1) := by decide +kernel
theorem dX5_firstBar_84 : decode cX5_firstBar 84 = .ok (.aload_n 0, 1) := by decide +kernel
theorem dX5_firstBar_85 : decode cX5_firstBar 85 = .ok (.iload_n 1, 1) := by decide +kernel
theorem dX5_firstBar_86 : decode cX5_firstBar 86 = .ok (.iload_n 3, 1) := by decide +kernel
theorem dX5_firstBar_87 : decode cX5_firstBar 87 = .ok (.invokevirtual 65, 3) := by decide +kernel
theorem dX5_firstBar_90 : decode cX5_firstBar 90 = .ok (.ireturn, 1) := by decide +kernel
theorem dX5_firstBar_91 : decode cX5_firstBar 91 = .ok (.iconst 0, 1) := by decide +kernel
theorem dX5_firstBar_92 : decode cX5_firstBar 92 = .ok (.ireturn, 1) := by decide +kernel
theorem dX5_barOfStart_0 : decode cX5_barOfStart 0 = .ok (.aload_n 0, 1) := by decide +kernel
theorem dX5_barOfStart_1 : decode cX5_barOfStart 1 = .ok (.getfield 12, 3) := by decide +kernel
theorem dX5_barOfStart_4 : decode cX5_barOfStart 4 = .ok (.aload_n 0, 1) := by decide +kernel
theorem dX5_barOfStart_5 : decode cX5_barOfStart 5 = .ok (.getfield 28, 3) := by decide +kernel
theorem dX5_barOfStart_8 : decode cX5_barOfStart 8 = .ok (.getfield 68, 3) := by decide +kernel
theorem dX5_barOfStart_11 : decode cX5_barOfStart 11 = .ok (.iload_n 1, 1) := by decide +kernel
theorem dX5_barOfStart_12 : decode cX5_barOfStart 12 = .ok (.iaload, 1) := by decide +kernel
theorem dX5_barOfStart_13 : decode cX5_barOfStart 13 = .ok (.aload_n 0, 1) := by decide +kernel
theorem dX5_barOfStart_14 : decode cX5_barOfStart 14 = .ok (.invokevirtual 71, 3) := by decide +kernel
theorem dX5_barOfStart_17 : decode cX5_barOfStart 17 = .ok (.aload_n 0, 1) := by decide +kernel
theorem dX5_barOfStart_18 : decode cX5_barOfStart 18 = .ok (.getfield 12, 3) := by decide +kernel
theorem dX5_barOfStart_21 : decode cX5_barOfStart 21 = .ok (.invokevirtual 74, 3) := by decide +kernel
theorem dX5_barOfStart_24 : decode cX5_barOfStart 24 = .ok (.aload_n 0, 1) := by decide +kernel
theorem dX5_barOfStart_25 : decode cX5_barOfStart 25 = .ok (.getfield 21, 3) := by decide +kernel
theorem dX5_barOfStart_28 : decode cX5_barOfStart 28 = .ok (.iload_n 2, 1) := by decide +kernel
theorem dX5_barOfStart_29 : decode cX5_barOfStart 29 = .ok (.invokevirtual 77, 3) := by decide +kernel
theorem dX5_barOfStart_32 : decode cX5_barOfStart 32 = .ok (.invokevirtual 80, 3) := by decide +kernel
theorem dX5_barOfStart_35 : decode cX5_barOfStart 35 = .ok (.ifCond .ne 5, 3) := by decide +kernel
theorem dX5_barOfStart_38 : decode cX5_barOfStart 38 = .ok (.iconst 2, 1) := by decide +kernel
theorem dX5_barOfStart_39 : decode cX5_barOfStart 39 = .ok (.ireturn, 1) := by decide +kernel
theorem dX5_barOfStart_40 : decode cX5_barOfStart 40 = .ok (.aload_n 0, 1) := by decide +kernel
theorem dX5_barOfStart_41 : decode cX5_barOfStart 41 = .ok (.iload_n 1, 1) := by decide +kernel
theorem dX5_barOfStart_42 : decode cX5_barOfStart 42 = .ok (.iload_n 2, 1) := by decide +kernel
theorem dX5_barOfStart_43 : decode cX5_barOfStart 43 = .ok (.invokevirtual 84, 3) := by decide +kernel
theorem dX5_barOfStart_46 : decode cX5_barOfStart 46 = .ok (.ifCond .eq 5, 3) := by decide +kernel
theorem dX5_barOfStart_49 : decode cX5_barOfStart 49 = .ok (.iconst 3, 1) := by decide +kernel
theorem dX5_barOfStart_50 : decode cX5_barOfStart 50 = .ok (.ireturn, 1) := by decide +kernel
theorem dX5_barOfStart_51 : decode cX5_barOfStart 51 = .ok (.aload_n 0, 1) := by decide +kernel
theorem dX5_barOfStart_52 : decode cX5_barOfStart 52 = .ok (.iload_n 1, 1) := by decide +kernel
theorem dX5_barOfStart_53 : decode cX5_barOfStart 53 = .ok (.iload_n 2, 1) := by decide +kernel
theorem dX5_barOfStart_54 : decode cX5_barOfStart 54 = .ok (.invokevirtual 88, 3) := by decide +kernel
theorem dX5_barOfStart_57 : decode cX5_barOfStart 57 = .ok (.bipush (-3), 2) := by decide +kernel
theorem dX5_barOfStart_59 : decode cX5_barOfStart 59 = .ok (.if_icmp .eq 5, 3) := by decide +kernel
theorem dX5_barOfStart_62 : decode cX5_barOfStart 62 = .ok (.iconst 4, 1) := by decide +kernel
theorem dX5_barOfStart_63 : decode cX5_barOfStart 63 = .ok (.ireturn, 1) := by decide +kernel
theorem dX5_barOfStart_64 : decode cX5_barOfStart 64 = .ok (.aload_n 0, 1) := by decide +kernel
theorem dX5_barOfStart_65 : decode cX5_barOfStart 65 = .ok (.iload_n 1, 1) := by decide +kernel
theorem dX5_barOfStart_66 : decode cX5_barOfStart 66 = .ok (.iload_n 2, 1) := by decide +kernel
theorem dX5_barOfStart_67 : decode cX5_barOfStart 67 = .ok (.invokevirtual 91, 3) := by decide +kernel
theorem dX5_barOfStart_70 : decode cX5_barOfStart 70 = .ok (.ifCond .eq 5, 3) := by decide +kernel
theorem dX5_barOfStart_73 : decode cX5_barOfStart 73 = .ok (.iconst 5, 1) := by decide +kernel
theorem dX5_barOfStart_74 : decode cX5_barOfStart 74 = .ok (.ireturn, 1) := by decide +kernel
theorem dX5_barOfStart_75 : decode cX5_barOfStart 75 = .ok (.aload_n 0, 1) := by decide +kernel
theorem dX5_barOfStart_76 : decode cX5_barOfStart 76 = .ok (.getfield 35, 3) := by decide +kernel
theorem dX5_barOfStart_79 : decode cX5_barOfStart 79 = .ok (.aload_n 0, 1) := by decide +kernel
theorem dX5_barOfStart_80 : decode cX5_barOfStart 80 = .ok (.getfield 28, 3) := by decide +kernel
theorem dX5_barOfStart_83 : decode cX5_barOfStart 83 = .ok (.getfield 94, 3) := by decide +kernel
theorem dX5_barOfStart_86 : decode cX5_barOfStart 86 = .ok (.iload_n 1, 1) := by decide +kernel
theorem dX5_barOfStart_87 : decode cX5_barOfStart 87 = .ok (.iaload, 1) := by decide +kernel
theorem dX5_barOfStart_88 : decode cX5_barOfStart 88 = .ok (.invokevirtual 97, 3) := by decide +kernel
theorem dX5_barOfStart_91 : decode cX5_barOfStart 91 = .ok (.ifCond .eq 7, 3) := by decide +kernel
theorem dX5_barOfStart_94 : decode cX5_barOfStart 94 = .ok (.iconst 0, 1) := by decide +kernel
theorem dX5_barOfStart_95 : decode cX5_barOfStart 95 = .ok (.goto 5, 3) := by decide +kernel
theorem dX5_barOfStart_98 : decode cX5_barOfStart 98 = .ok (.bipush 6, 2) := by decide +kernel
theorem dX5_barOfStart_100 : decode cX5_barOfStart 100 = .ok (.ireturn, 1) := by decide +kernel
theorem dX5_barOfBack_0 : decode cX5_barOfBack 0 = .ok (.aload_n 0, 1) := by decide +kernel
theorem dX5_barOfBack_1 : decode cX5_barOfBack 1 = .ok (.getfield 35, 3) := by decide +kernel
theorem dX5_barOfBack_4 : decode cX5_barOfBack 4 = .ok (.iload_n 1, 1) := by decide +kernel
theorem dX5_barOfBack_5 : decode cX5_barOfBack 5 = .ok (.invokevirtual 58, 3) := by decide +kernel
theorem dX5_barOfBack_8 : decode cX5_barOfBack 8 = .ok (.ifCond .le 6, 3) := by decide +kernel
theorem dX5_barOfBack_11 : decode cX5_barOfBack 11 = .ok (.bipush 7, 2) := by decide +kernel
theorem dX5_barOfBack_13 : decode cX5_barOfBack 13 = .ok (.ireturn, 1) := by decide +kernel
theorem dX5_barOfBack_14 : decode cX5_barOfBack 14 = .ok (.aload_n 0, 1) := by decide +kernel
theorem dX5_barOfBack_15 : decode cX5_barOfBack 15 = .ok (.iload_n 1, 1) := by decide +kernel
theorem dX5_barOfBack_16 : decode cX5_barOfBack 16 = .ok (.iload_n 2, 1) := by decide +kernel
theorem dX5_barOfBack_17 : decode cX5_barOfBack 17 = .ok (.invokevirtual 101, 3) := by decide +kernel
theorem dX5_barOfBack_20 : decode cX5_barOfBack 20 = .ok (.ifCond .eq 8, 3) := by decide +kernel
theorem dX5_barOfBack_23 : decode cX5_barOfBack 23 = .ok (.bipush 8, 2) := by decide +kernel
theorem dX5_barOfBack_25 : decode cX5_barOfBack 25 = .ok (.goto 4, 3) := by decide +kernel
theorem dX5_barOfBack_28 : decode cX5_barOfBack 28 = .ok (.iconst 0, 1) := by decide +kernel
theorem dX5_barOfBack_29 : decode cX5_barOfBack 29 = .ok (.ireturn, 1) := by decide +kernel
theorem dX5_barOfEnter_0 : decode cX5_barOfEnter 0 = .ok (.aload_n 0, 1) := by decide +kernel
theorem dX5_barOfEnter_1 : decode cX5_barOfEnter 1 = .ok (.iload_n 1, 1) := by decide +kernel
theorem dX5_barOfEnter_2 : decode cX5_barOfEnter 2 = .ok (.iload_n 2, 1) := by decide +kernel
theorem dX5_barOfEnter_3 : decode cX5_barOfEnter 3 = .ok (.invokevirtual 84, 3) := by decide +kernel
theorem dX5_barOfEnter_6 : decode cX5_barOfEnter 6 = .ok (.ifCond .eq 5, 3) := by decide +kernel
theorem dX5_barOfEnter_9 : decode cX5_barOfEnter 9 = .ok (.iconst 3, 1) := by decide +kernel
theorem dX5_barOfEnter_10 : decode cX5_barOfEnter 10 = .ok (.ireturn, 1) := by decide +kernel
theorem dX5_barOfEnter_11 : decode cX5_barOfEnter 11 = .ok (.aload_n 0, 1) := by decide +kernel
theorem dX5_barOfEnter_12 : decode cX5_barOfEnter 12 = .ok (.iload_n 1, 1) := by decide +kernel
theorem dX5_barOfEnter_13 : decode cX5_barOfEnter 13 = .ok (.iload_n 2, 1) := by decide +kernel
theorem dX5_barOfEnter_14 : decode cX5_barOfEnter 14 = .ok (.invokevirtual 91, 3) := by decide +kernel
theorem dX5_barOfEnter_17 : decode cX5_barOfEnter 17 = .ok (.ifCond .eq 5, 3) := by decide +kernel
theorem dX5_barOfEnter_20 : decode cX5_barOfEnter 20 = .ok (.iconst 5, 1) := by decide +kernel
theorem dX5_barOfEnter_21 : decode cX5_barOfEnter 21 = .ok (.ireturn, 1) := by decide +kernel
theorem dX5_barOfEnter_22 : decode cX5_barOfEnter 22 = .ok (.aload_n 0, 1) := by decide +kernel
theorem dX5_barOfEnter_23 : decode cX5_barOfEnter 23 = .ok (.iload_n 1, 1) := by decide +kernel
theorem dX5_barOfEnter_24 : decode cX5_barOfEnter 24 = .ok (.iload_n 2, 1) := by decide +kernel
theorem dX5_barOfEnter_25 : decode cX5_barOfEnter 25 = .ok (.invokevirtual 104, 3) := by decide +kernel
theorem dX5_barOfEnter_28 : decode cX5_barOfEnter 28 = .ok (.ifCond .eq 8, 3) := by decide +kernel
theorem dX5_barOfEnter_31 : decode cX5_barOfEnter 31 = .ok (.bipush 7, 2) := by decide +kernel
theorem dX5_barOfEnter_33 : decode cX5_barOfEnter 33 = .ok (.goto 4, 3) := by decide +kernel
theorem dX5_barOfEnter_36 : decode cX5_barOfEnter 36 = .ok (.iconst 0, 1) := by decide +kernel
theorem dX5_barOfEnter_37 : decode cX5_barOfEnter 37 = .ok (.ireturn, 1) := by decide +kernel
theorem dX5_lacksTest_0 : decode cX5_lacksTest 0 = .ok (.iconst 0, 1) := by decide +kernel
theorem dX5_lacksTest_1 : decode cX5_lacksTest 1 = .ok (.istore_n 3, 1) := by decide +kernel
theorem dX5_lacksTest_2 : decode cX5_lacksTest 2 = .ok (.iload_n 3, 1) := by decide +kernel
theorem dX5_lacksTest_3 : decode cX5_lacksTest 3 = .ok (.aload_n 0, 1) := by decide +kernel
theorem dX5_lacksTest_4 : decode cX5_lacksTest 4 = .ok (.getfield 21, 3) := by decide +kernel
theorem dX5_lacksTest_7 : decode cX5_lacksTest 7 = .ok (.getfield 107, 3) := by decide +kernel
theorem dX5_lacksTest_10 : decode cX5_lacksTest 10 = .ok (.if_icmp .ge 58, 3) := by decide +kernel
theorem dX5_lacksTest_13 : decode cX5_lacksTest 13 = .ok (.aload_n 0, 1) := by decide +kernel
theorem dX5_lacksTest_14 : decode cX5_lacksTest 14 = .ok (.getfield 21, 3) := by decide +kernel
theorem dX5_lacksTest_17 : decode cX5_lacksTest 17 = .ok (.iload_n 3, 1) := by decide +kernel
theorem dX5_lacksTest_18 : decode cX5_lacksTest 18 = .ok (.iconst 0, 1) := by decide +kernel
theorem dX5_lacksTest_19 : decode cX5_lacksTest 19 = .ok (.aload_n 0, 1) := by decide +kernel
theorem dX5_lacksTest_20 : decode cX5_lacksTest 20 = .ok (.getfield 28, 3) := by decide +kernel
theorem dX5_lacksTest_23 : decode cX5_lacksTest 23 = .ok (.getfield 110, 3) := by decide +kernel
theorem dX5_lacksTest_26 : decode cX5_lacksTest 26 = .ok (.iload_n 1, 1) := by decide +kernel
theorem dX5_lacksTest_27 : decode cX5_lacksTest 27 = .ok (.iaload, 1) := by decide +kernel
theorem dX5_lacksTest_28 : decode cX5_lacksTest 28 = .ok (.iload_n 2, 1) := by decide +kernel
theorem dX5_lacksTest_29 : decode cX5_lacksTest 29 = .ok (.invokevirtual 113, 3) := by decide +kernel
theorem dX5_lacksTest_32 : decode cX5_lacksTest 32 = .ok (.istore 4, 2) := by decide +kernel
theorem dX5_lacksTest_34 : decode cX5_lacksTest 34 = .ok (.iload 4, 2) := by decide +kernel
theorem dX5_lacksTest_36 : decode cX5_lacksTest 36 = .ok (.ifCond .eq 26, 3) := by decide +kernel
theorem dX5_lacksTest_39 : decode cX5_lacksTest 39 = .ok (.aload_n 0, 1) := by decide +kernel
theorem dX5_lacksTest_40 : decode cX5_lacksTest 40 = .ok (.getfield 28, 3) := by decide +kernel
theorem dX5_lacksTest_43 : decode cX5_lacksTest 43 = .ok (.iload_n 1, 1) := by decide +kernel
theorem dX5_lacksTest_44 : decode cX5_lacksTest 44 = .ok (.iload_n 2, 1) := by decide +kernel
theorem dX5_lacksTest_45 : decode cX5_lacksTest 45 = .ok (.aload_n 0, 1) := by decide +kernel
theorem dX5_lacksTest_46 : decode cX5_lacksTest 46 = .ok (.getfield 21, 3) := by decide +kernel
theorem dX5_lacksTest_49 : decode cX5_lacksTest 49 = .ok (.getfield 116, 3) := by decide +kernel
theorem dX5_lacksTest_52 : decode cX5_lacksTest 52 = .ok (.iload_n 3, 1) := by decide +kernel
theorem dX5_lacksTest_53 : decode cX5_lacksTest 53 = .ok (.iaload, 1) := by decide +kernel
theorem dX5_lacksTest_54 : decode cX5_lacksTest 54 = .ok (.invokevirtual 119, 3) := by decide +kernel
theorem dX5_lacksTest_57 : decode cX5_lacksTest 57 = .ok (.ifCond .ne 5, 3) := by decide +kernel
theorem dX5_lacksTest_60 : decode cX5_lacksTest 60 = .ok (.iconst 1, 1) := by decide +kernel
theorem dX5_lacksTest_61 : decode cX5_lacksTest 61 = .ok (.ireturn, 1) := by decide +kernel
theorem dX5_lacksTest_62 : decode cX5_lacksTest 62 = .ok (.iinc 3 1, 3) := by decide +kernel
theorem dX5_lacksTest_65 : decode cX5_lacksTest 65 = .ok (.goto (-63), 3) := by decide +kernel
theorem dX5_lacksTest_68 : decode cX5_lacksTest 68 = .ok (.iconst 0, 1) := by decide +kernel
theorem dX5_lacksTest_69 : decode cX5_lacksTest 69 = .ok (.ireturn, 1) := by decide +kernel
theorem dX5_quarrelOf_0 : decode cX5_quarrelOf 0 = .ok (.iconst 0, 1) := by decide +kernel
theorem dX5_quarrelOf_1 : decode cX5_quarrelOf 1 = .ok (.istore_n 3, 1) := by decide +kernel
theorem dX5_quarrelOf_2 : decode cX5_quarrelOf 2 = .ok (.iload_n 3, 1) := by decide +kernel
theorem dX5_quarrelOf_3 : decode cX5_quarrelOf 3 = .ok (.aload_n 0, 1) := by decide +kernel
theorem dX5_quarrelOf_4 : decode cX5_quarrelOf 4 = .ok (.getfield 28, 3) := by decide +kernel
theorem dX5_quarrelOf_7 : decode cX5_quarrelOf 7 = .ok (.getfield 123, 3) := by decide +kernel
theorem dX5_quarrelOf_10 : decode cX5_quarrelOf 10 = .ok (.if_icmp .ge 87, 3) := by decide +kernel
theorem dX5_quarrelOf_13 : decode cX5_quarrelOf 13 = .ok (.iload_n 3, 1) := by decide +kernel
theorem dX5_quarrelOf_14 : decode cX5_quarrelOf 14 = .ok (.iload_n 1, 1) := by decide +kernel
theorem dX5_quarrelOf_15 : decode cX5_quarrelOf 15 = .ok (.if_icmp .eq 76, 3) := by decide +kernel
theorem dX5_quarrelOf_18 : decode cX5_quarrelOf 18 = .ok (.aload_n 0, 1) := by decide +kernel
theorem dX5_quarrelOf_19 : decode cX5_quarrelOf 19 = .ok (.getfield 28, 3) := by decide +kernel
theorem dX5_quarrelOf_22 : decode cX5_quarrelOf 22 = .ok (.getfield 51, 3) := by decide +kernel
theorem dX5_quarrelOf_25 : decode cX5_quarrelOf 25 = .ok (.iload_n 3, 1) := by decide +kernel
theorem dX5_quarrelOf_26 : decode cX5_quarrelOf 26 = .ok (.iaload, 1) := by decide +kernel
theorem dX5_quarrelOf_27 : decode cX5_quarrelOf 27 = .ok (.iconst 3, 1) := by decide +kernel
theorem dX5_quarrelOf_28 : decode cX5_quarrelOf 28 = .ok (.if_icmp .ne 63, 3) := by decide +kernel
theorem dX5_quarrelOf_31 : decode cX5_quarrelOf 31 = .ok (.aload_n 0, 1) := by decide +kernel
theorem dX5_quarrelOf_32 : decode cX5_quarrelOf 32 = .ok (.getfield 12, 3) := by decide +kernel
theorem dX5_quarrelOf_35 : decode cX5_quarrelOf 35 = .ok (.aload_n 0, 1) := by decide +kernel
theorem dX5_quarrelOf_36 : decode cX5_quarrelOf 36 = .ok (.getfield 28, 3) := by decide +kernel
theorem dX5_quarrelOf_39 : decode cX5_quarrelOf 39 = .ok (.getfield 68, 3) := by decide +kernel
theorem dX5_quarrelOf_42 : decode cX5_quarrelOf 42 = .ok (.iload_n 1, 1) := by decide +kernel
theorem dX5_quarrelOf_43 : decode cX5_quarrelOf 43 = .ok (.iaload, 1) := by decide +kernel
theorem dX5_quarrelOf_44 : decode cX5_quarrelOf 44 = .ok (.aload_n 0, 1) := by decide +kernel
theorem dX5_quarrelOf_45 : decode cX5_quarrelOf 45 = .ok (.getfield 28, 3) := by decide +kernel
theorem dX5_quarrelOf_48 : decode cX5_quarrelOf 48 = .ok (.getfield 68, 3) := by decide +kernel
theorem dX5_quarrelOf_51 : decode cX5_quarrelOf 51 = .ok (.iload_n 3, 1) := by decide +kernel
theorem dX5_quarrelOf_52 : decode cX5_quarrelOf 52 = .ok (.iaload, 1) := by decide +kernel
theorem dX5_quarrelOf_53 : decode cX5_quarrelOf 53 = .ok (.invokevirtual 124, 3) := by decide +kernel
theorem dX5_quarrelOf_56 : decode cX5_quarrelOf 56 = .ok (.istore 4, 2) := by decide +kernel
theorem dX5_quarrelOf_58 : decode cX5_quarrelOf 58 = .ok (.aload_n 0, 1) := by decide +kernel
theorem dX5_quarrelOf_59 : decode cX5_quarrelOf 59 = .ok (.getfield 21, 3) := by decide +kernel
theorem dX5_quarrelOf_62 : decode cX5_quarrelOf 62 = .ok (.aload_n 0, 1) := by decide +kernel
theorem dX5_quarrelOf_63 : decode cX5_quarrelOf 63 = .ok (.getfield 28, 3) := by decide +kernel
theorem dX5_quarrelOf_66 : decode cX5_quarrelOf 66 = .ok (.getfield 110, 3) := by decide +kernel
theorem dX5_quarrelOf_69 : decode cX5_quarrelOf 69 = .ok (.iload_n 1, 1) := by decide +kernel
theorem dX5_quarrelOf_70 : decode cX5_quarrelOf 70 = .ok (.iaload, 1) := by decide +kernel
theorem dX5_quarrelOf_71 : decode cX5_quarrelOf 71 = .ok (.aload_n 0, 1) := by decide +kernel
theorem dX5_quarrelOf_72 : decode cX5_quarrelOf 72 = .ok (.getfield 28, 3) := by decide +kernel
theorem dX5_quarrelOf_75 : decode cX5_quarrelOf 75 = .ok (.getfield 110, 3) := by decide +kernel
theorem dX5_quarrelOf_78 : decode cX5_quarrelOf 78 = .ok (.iload_n 3, 1) := by decide +kernel
theorem dX5_quarrelOf_79 : decode cX5_quarrelOf 79 = .ok (.iaload, 1) := by decide +kernel
theorem dX5_quarrelOf_80 : decode cX5_quarrelOf 80 = .ok (.iload 4, 2) := by decide +kernel
theorem dX5_quarrelOf_82 : decode cX5_quarrelOf 82 = .ok (.iload_n 2, 1) := by decide +kernel
theorem dX5_quarrelOf_83 : decode cX5_quarrelOf 83 = .ok (.invokevirtual 127, 3) := by decide +kernel
theorem dX5_quarrelOf_86 : decode cX5_quarrelOf 86 = .ok (.ifCond .eq 5, 3) := by decide +kernel
theorem dX5_quarrelOf_89 : decode cX5_quarrelOf 89 = .ok (.iload_n 3, 1) := by decide +kernel
theorem dX5_quarrelOf_90 : decode cX5_quarrelOf 90 = .ok (.ireturn, 1) := by decide +kernel
theorem dX5_quarrelOf_91 : decode cX5_quarrelOf 91 = .ok (.iinc 3 1, 3) := by decide +kernel
theorem dX5_quarrelOf_94 : decode cX5_quarrelOf 94 = .ok (.goto (-92), 3) := by decide +kernel
theorem dX5_quarrelOf_97 : decode cX5_quarrelOf 97 = .ok (.bipush (-3), 2) := by decide +kernel
theorem dX5_quarrelOf_99 : decode cX5_quarrelOf 99 = .ok (.ireturn, 1) := by decide +kernel
theorem dX5_isOffHours_0 : decode cX5_isOffHours 0 = .ok (.iconst 0, 1) := by decide +kernel
theorem dX5_isOffHours_1 : decode cX5_isOffHours 1 = .ok (.istore_n 3, 1) := by decide +kernel
theorem dX5_isOffHours_2 : decode cX5_isOffHours 2 = .ok (.iload_n 3, 1) := by decide +kernel
theorem dX5_isOffHours_3 : decode cX5_isOffHours 3 = .ok (.aload_n 0, 1) := by decide +kernel
theorem dX5_isOffHours_4 : decode cX5_isOffHours 4 = .ok (.getfield 21, 3) := by decide +kernel
theorem dX5_isOffHours_7 : decode cX5_isOffHours 7 = .ok (.getfield 107, 3) := by decide +kernel
theorem dX5_isOffHours_10 : decode cX5_isOffHours 10 = .ok (.if_icmp .ge 65, 3) := by decide +kernel
theorem dX5_isOffHours_13 : decode cX5_isOffHours 13 = .ok (.aload_n 0, 1) := by decide +kernel
theorem dX5_isOffHours_14 : decode cX5_isOffHours 14 = .ok (.getfield 21, 3) := by decide +kernel
theorem dX5_isOffHours_17 : decode cX5_isOffHours 17 = .ok (.iload_n 3, 1) := by decide +kernel
theorem dX5_isOffHours_18 : decode cX5_isOffHours 18 = .ok (.iconst 4, 1) := by decide +kernel
theorem dX5_isOffHours_19 : decode cX5_isOffHours 19 = .ok (.aload_n 0, 1) := by decide +kernel
theorem dX5_isOffHours_20 : decode cX5_isOffHours 20 = .ok (.getfield 28, 3) := by decide +kernel
theorem dX5_isOffHours_23 : decode cX5_isOffHours 23 = .ok (.getfield 110, 3) := by decide +kernel
theorem dX5_isOffHours_26 : decode cX5_isOffHours 26 = .ok (.iload_n 1, 1) := by decide +kernel
theorem dX5_isOffHours_27 : decode cX5_isOffHours 27 = .ok (.iaload, 1) := by decide +kernel
theorem dX5_isOffHours_28 : decode cX5_isOffHours 28 = .ok (.iload_n 2, 1) := by decide +kernel
theorem dX5_isOffHours_29 : decode cX5_isOffHours 29 = .ok (.invokevirtual 113, 3) := by decide +kernel
theorem dX5_isOffHours_32 : decode cX5_isOffHours 32 = .ok (.istore 4, 2) := by decide +kernel
theorem dX5_isOffHours_34 : decode cX5_isOffHours 34 = .ok (.iload 4, 2) := by decide +kernel
theorem dX5_isOffHours_36 : decode cX5_isOffHours 36 = .ok (.ifCond .eq 33, 3) := by decide +kernel
theorem dX5_isOffHours_39 : decode cX5_isOffHours 39 = .ok (.iload_n 2, 1) := by decide +kernel
theorem dX5_isOffHours_40 : decode cX5_isOffHours 40 = .ok (.bipush 24, 2) := by decide +kernel
theorem dX5_isOffHours_42 : decode cX5_isOffHours 42 = .ok (.irem, 1) := by decide +kernel
theorem dX5_isOffHours_43 : decode cX5_isOffHours 43 = .ok (.aload_n 0, 1) := by decide +kernel
theorem dX5_isOffHours_44 : decode cX5_isOffHours 44 = .ok (.getfield 21, 3) := by decide +kernel
theorem dX5_isOffHours_47 : decode cX5_isOffHours 47 = .ok (.getfield 116, 3) := by decide +kernel
theorem dX5_isOffHours_50 : decode cX5_isOffHours 50 = .ok (.iload_n 3, 1) := by decide +kernel
theorem dX5_isOffHours_51 : decode cX5_isOffHours 51 = .ok (.iaload, 1) := by decide +kernel
theorem dX5_isOffHours_52 : decode cX5_isOffHours 52 = .ok (.aload_n 0, 1) := by decide +kernel
theorem dX5_isOffHours_53 : decode cX5_isOffHours 53 = .ok (.getfield 21, 3) := by decide +kernel
theorem dX5_isOffHours_56 : decode cX5_isOffHours 56 = .ok (.getfield 130, 3) := by decide +kernel
theorem dX5_isOffHours_59 : decode cX5_isOffHours 59 = .ok (.iload_n 3, 1) := by decide +kernel
theorem dX5_isOffHours_60 : decode cX5_isOffHours 60 = .ok (.iaload, 1) := by decide +kernel
theorem dX5_isOffHours_61 : decode cX5_isOffHours 61 = .ok (.invokestatic 133, 3) := by decide +kernel
theorem dX5_isOffHours_64 : decode cX5_isOffHours 64 = .ok (.ifCond .ne 5, 3) := by decide +kernel
theorem dX5_isOffHours_67 : decode cX5_isOffHours 67 = .ok (.iconst 1, 1) := by decide +kernel
theorem dX5_isOffHours_68 : decode cX5_isOffHours 68 = .ok (.ireturn, 1) := by decide +kernel
theorem dX5_isOffHours_69 : decode cX5_isOffHours 69 = .ok (.iinc 3 1, 3) := by decide +kernel
theorem dX5_isOffHours_72 : decode cX5_isOffHours 72 = .ok (.goto (-70), 3) := by decide +kernel
theorem dX5_isOffHours_75 : decode cX5_isOffHours 75 = .ok (.iconst 0, 1) := by decide +kernel
theorem dX5_isOffHours_76 : decode cX5_isOffHours 76 = .ok (.ireturn, 1) := by decide +kernel
theorem dX5_isWithin_0 : decode cX5_isWithin 0 = .ok (.iload_n 1, 1) := by decide +kernel
theorem dX5_isWithin_1 : decode cX5_isWithin 1 = .ok (.iload_n 2, 1) := by decide +kernel
theorem dX5_isWithin_2 : decode cX5_isWithin 2 = .ok (.if_icmp .le 19, 3) := by decide +kernel
theorem dX5_isWithin_5 : decode cX5_isWithin 5 = .ok (.iload_n 0, 1) := by decide +kernel
theorem dX5_isWithin_6 : decode cX5_isWithin 6 = .ok (.iload_n 1, 1) := by decide +kernel
theorem dX5_isWithin_7 : decode cX5_isWithin 7 = .ok (.if_icmp .ge 8, 3) := by decide +kernel
theorem dX5_isWithin_10 : decode cX5_isWithin 10 = .ok (.iload_n 0, 1) := by decide +kernel
theorem dX5_isWithin_11 : decode cX5_isWithin 11 = .ok (.iload_n 2, 1) := by decide +kernel
theorem dX5_isWithin_12 : decode cX5_isWithin 12 = .ok (.if_icmp .gt 7, 3) := by decide +kernel
theorem dX5_isWithin_15 : decode cX5_isWithin 15 = .ok (.iconst 1, 1) := by decide +kernel
theorem dX5_isWithin_16 : decode cX5_isWithin 16 = .ok (.goto 4, 3) := by decide +kernel
theorem dX5_isWithin_19 : decode cX5_isWithin 19 = .ok (.iconst 0, 1) := by decide +kernel
theorem dX5_isWithin_20 : decode cX5_isWithin 20 = .ok (.ireturn, 1) := by decide +kernel
theorem dX5_isWithin_21 : decode cX5_isWithin 21 = .ok (.iload_n 0, 1) := by decide +kernel
theorem dX5_isWithin_22 : decode cX5_isWithin 22 = .ok (.iload_n 1, 1) := by decide +kernel
theorem dX5_isWithin_23 : decode cX5_isWithin 23 = .ok (.if_icmp .lt 12, 3) := by decide +kernel
theorem dX5_isWithin_26 : decode cX5_isWithin 26 = .ok (.iload_n 0, 1) := by decide +kernel
theorem dX5_isWithin_27 : decode cX5_isWithin 27 = .ok (.iload_n 2, 1) := by decide +kernel
theorem dX5_isWithin_28 : decode cX5_isWithin 28 = .ok (.if_icmp .gt 7, 3) := by decide +kernel
theorem dX5_isWithin_31 : decode cX5_isWithin 31 = .ok (.iconst 1, 1) := by decide +kernel
theorem dX5_isWithin_32 : decode cX5_isWithin 32 = .ok (.goto 4, 3) := by decide +kernel
theorem dX5_isWithin_35 : decode cX5_isWithin 35 = .ok (.iconst 0, 1) := by decide +kernel
theorem dX5_isWithin_36 : decode cX5_isWithin 36 = .ok (.ireturn, 1) := by decide +kernel
theorem dX5_isCrowded_0 : decode cX5_isCrowded 0 = .ok (.aload_n 0, 1) := by decide +kernel
theorem dX5_isCrowded_1 : decode cX5_isCrowded 1 = .ok (.getfield 35, 3) := by decide +kernel
theorem dX5_isCrowded_4 : decode cX5_isCrowded 4 = .ok (.iload_n 1, 1) := by decide +kernel
theorem dX5_isCrowded_5 : decode cX5_isCrowded 5 = .ok (.invokevirtual 58, 3) := by decide +kernel
theorem dX5_isCrowded_8 : decode cX5_isCrowded 8 = .ok (.istore_n 3, 1) := by decide +kernel
theorem dX5_isCrowded_9 : decode cX5_isCrowded 9 = .ok (.iconst 0, 1) := by decide +kernel
theorem dX5_isCrowded_10 : decode cX5_isCrowded 10 = .ok (.istore 4, 2) := by decide +kernel
theorem dX5_isCrowded_12 : decode cX5_isCrowded 12 = .ok (.iload 4, 2) := by decide +kernel
theorem dX5_isCrowded_14 : decode cX5_isCrowded 14 = .ok (.aload_n 0, 1) := by decide +kernel
theorem dX5_isCrowded_15 : decode cX5_isCrowded 15 = .ok (.getfield 21, 3) := by decide +kernel
theorem dX5_isCrowded_18 : decode cX5_isCrowded 18 = .ok (.getfield 107, 3) := by decide +kernel
theorem dX5_isCrowded_21 : decode cX5_isCrowded 21 = .ok (.if_icmp .ge 48, 3) := by decide +kernel
theorem dX5_isCrowded_24 : decode cX5_isCrowded 24 = .ok (.aload_n 0, 1) := by decide +kernel
theorem dX5_isCrowded_25 : decode cX5_isCrowded 25 = .ok (.getfield 21, 3) := by decide +kernel
theorem dX5_isCrowded_28 : decode cX5_isCrowded 28 = .ok (.iload 4, 2) := by decide +kernel
theorem dX5_isCrowded_30 : decode cX5_isCrowded 30 = .ok (.iconst 3, 1) := by decide +kernel
theorem dX5_isCrowded_31 : decode cX5_isCrowded 31 = .ok (.aload_n 0, 1) := by decide +kernel
theorem dX5_isCrowded_32 : decode cX5_isCrowded 32 = .ok (.getfield 28, 3) := by decide +kernel
theorem dX5_isCrowded_35 : decode cX5_isCrowded 35 = .ok (.getfield 110, 3) := by decide +kernel
theorem dX5_isCrowded_38 : decode cX5_isCrowded 38 = .ok (.iload_n 1, 1) := by decide +kernel
theorem dX5_isCrowded_39 : decode cX5_isCrowded 39 = .ok (.iaload, 1) := by decide +kernel
theorem dX5_isCrowded_40 : decode cX5_isCrowded 40 = .ok (.iload_n 2, 1) := by decide +kernel
theorem dX5_isCrowded_41 : decode cX5_isCrowded 41 = .ok (.invokevirtual 113, 3) := by decide +kernel
theorem dX5_isCrowded_44 : decode cX5_isCrowded 44 = .ok (.ifCond .eq 19, 3) := by decide +kernel
theorem dX5_isCrowded_47 : decode cX5_isCrowded 47 = .ok (.iload_n 3, 1) := by decide +kernel
theorem dX5_isCrowded_48 : decode cX5_isCrowded 48 = .ok (.aload_n 0, 1) := by decide +kernel
theorem dX5_isCrowded_49 : decode cX5_isCrowded 49 = .ok (.getfield 21, 3) := by decide +kernel
theorem dX5_isCrowded_52 : decode cX5_isCrowded 52 = .ok (.getfield 116, 3) := by decide +kernel
theorem dX5_isCrowded_55 : decode cX5_isCrowded 55 = .ok (.iload 4, 2) := by decide +kernel
theorem dX5_isCrowded_57 : decode cX5_isCrowded 57 = .ok (.iaload, 1) := by decide +kernel
theorem dX5_isCrowded_58 : decode cX5_isCrowded 58 = .ok (.if_icmp .lt 5, 3) := by decide +kernel
theorem dX5_isCrowded_61 : decode cX5_isCrowded 61 = .ok (.iconst 1, 1) := by decide +kernel
theorem dX5_isCrowded_62 : decode cX5_isCrowded 62 = .ok (.ireturn, 1) := by decide +kernel
theorem dX5_isCrowded_63 : decode cX5_isCrowded 63 = .ok (.iinc 4 1, 3) := by decide +kernel
theorem dX5_isCrowded_66 : decode cX5_isCrowded 66 = .ok (.goto (-54), 3) := by decide +kernel
theorem dX5_isCrowded_69 : decode cX5_isCrowded 69 = .ok (.iconst 0, 1) := by decide +kernel
theorem dX5_isCrowded_70 : decode cX5_isCrowded 70 = .ok (.ireturn, 1) := by decide +kernel
theorem dX5_isWatched_0 : decode cX5_isWatched 0 = .ok (.aload_n 0, 1) := by decide +kernel
theorem dX5_isWatched_1 : decode cX5_isWatched 1 = .ok (.getfield 28, 3) := by decide +kernel
theorem dX5_isWatched_4 : decode cX5_isWatched 4 = .ok (.getfield 136, 3) := by decide +kernel
theorem dX5_isWatched_7 : decode cX5_isWatched 7 = .ok (.iload_n 1, 1) := by decide +kernel
theorem dX5_isWatched_8 : decode cX5_isWatched 8 = .ok (.iaload, 1) := by decide +kernel
theorem dX5_isWatched_9 : decode cX5_isWatched 9 = .ok (.istore_n 3, 1) := by decide +kernel
theorem dX5_isWatched_10 : decode cX5_isWatched 10 = .ok (.iload_n 3, 1) := by decide +kernel
theorem dX5_isWatched_11 : decode cX5_isWatched 11 = .ok (.bipush (-3), 2) := by decide +kernel
theorem dX5_isWatched_13 : decode cX5_isWatched 13 = .ok (.if_icmp .ne 5, 3) := by decide +kernel
theorem dX5_isWatched_16 : decode cX5_isWatched 16 = .ok (.iconst 0, 1) := by decide +kernel
theorem dX5_isWatched_17 : decode cX5_isWatched 17 = .ok (.ireturn, 1) := by decide +kernel
theorem dX5_isWatched_18 : decode cX5_isWatched 18 = .ok (.iconst 0, 1) := by decide +kernel
theorem dX5_isWatched_19 : decode cX5_isWatched 19 = .ok (.istore 4, 2) := by decide +kernel
theorem dX5_isWatched_21 : decode cX5_isWatched 21 = .ok (.iload 4, 2) := by decide +kernel
theorem dX5_isWatched_23 : decode cX5_isWatched 23 = .ok (.aload_n 0, 1) := by decide +kernel
theorem dX5_isWatched_24 : decode cX5_isWatched 24 = .ok (.getfield 21, 3) := by decide +kernel
theorem dX5_isWatched_27 : decode cX5_isWatched 27 = .ok (.getfield 107, 3) := by decide +kernel
theorem dX5_isWatched_30 : decode cX5_isWatched 30 = .ok (.if_icmp .ge 50, 3) := by decide +kernel
theorem dX5_isWatched_33 : decode cX5_isWatched 33 = .ok (.aload_n 0, 1) := by decide +kernel
theorem dX5_isWatched_34 : decode cX5_isWatched 34 = .ok (.getfield 21, 3) := by decide +kernel
theorem dX5_isWatched_37 : decode cX5_isWatched 37 = .ok (.iload 4, 2) := by decide +kernel
theorem dX5_isWatched_39 : decode cX5_isWatched 39 = .ok (.iconst 5, 1) := by decide +kernel
theorem dX5_isWatched_40 : decode cX5_isWatched 40 = .ok (.aload_n 0, 1) := by decide +kernel
theorem dX5_isWatched_41 : decode cX5_isWatched 41 = .ok (.getfield 28, 3) := by decide +kernel
theorem dX5_isWatched_44 : decode cX5_isWatched 44 = .ok (.getfield 110, 3) := by decide +kernel
theorem dX5_isWatched_47 : decode cX5_isWatched 47 = .ok (.iload_n 1, 1) := by decide +kernel
theorem dX5_isWatched_48 : decode cX5_isWatched 48 = .ok (.iaload, 1) := by decide +kernel
theorem dX5_isWatched_49 : decode cX5_isWatched 49 = .ok (.iload_n 2, 1) := by decide +kernel
theorem dX5_isWatched_50 : decode cX5_isWatched 50 = .ok (.invokevirtual 113, 3) := by decide +kernel
theorem dX5_isWatched_53 : decode cX5_isWatched 53 = .ok (.ifCond .eq 21, 3) := by decide +kernel
theorem dX5_isWatched_56 : decode cX5_isWatched 56 = .ok (.iload_n 2, 1) := by decide +kernel
theorem dX5_isWatched_57 : decode cX5_isWatched 57 = .ok (.iload_n 3, 1) := by decide +kernel
theorem dX5_isWatched_58 : decode cX5_isWatched 58 = .ok (.isub, 1) := by decide +kernel
theorem dX5_isWatched_59 : decode cX5_isWatched 59 = .ok (.aload_n 0, 1) := by decide +kernel
theorem dX5_isWatched_60 : decode cX5_isWatched 60 = .ok (.getfield 21, 3) := by decide +kernel
theorem dX5_isWatched_63 : decode cX5_isWatched 63 = .ok (.getfield 116, 3) := by decide +kernel
theorem dX5_isWatched_66 : decode cX5_isWatched 66 = .ok (.iload 4, 2) := by decide +kernel
theorem dX5_isWatched_68 : decode cX5_isWatched 68 = .ok (.iaload, 1) := by decide +kernel
theorem dX5_isWatched_69 : decode cX5_isWatched 69 = .ok (.if_icmp .ge 5, 3) := by decide +kernel
theorem dX5_isWatched_72 : decode cX5_isWatched 72 = .ok (.iconst 1, 1) := by decide +kernel
theorem dX5_isWatched_73 : decode cX5_isWatched 73 = .ok (.ireturn, 1) := by decide +kernel
theorem dX5_isWatched_74 : decode cX5_isWatched 74 = .ok (.iinc 4 1, 3) := by decide +kernel
theorem dX5_isWatched_77 : decode cX5_isWatched 77 = .ok (.goto (-56), 3) := by decide +kernel
theorem dX5_isWatched_80 : decode cX5_isWatched 80 = .ok (.iconst 0, 1) := by decide +kernel
theorem dX5_isWatched_81 : decode cX5_isWatched 81 = .ok (.ireturn, 1) := by decide +kernel
theorem dX6_init_0 : decode cX6_init 0 = .ok (.aload_n 0, 1) := by decide +kernel
theorem dX6_init_1 : decode cX6_init 1 = .ok (.invokespecial 3, 3) := by decide +kernel
theorem dX6_init_4 : decode cX6_init 4 = .ok (.aload_n 0, 1) := by decide +kernel
theorem dX6_init_5 : decode cX6_init 5 = .ok (.bipush 12, 2) := by decide +kernel
theorem dX6_init_7 : decode cX6_init 7 = .ok (.newarray .int, 2) := by decide +kernel
theorem dX6_init_9 : decode cX6_init 9 = .ok (.putfield 9, 3) := by decide +kernel
theorem dX6_init_12 : decode cX6_init 12 = .ok (.aload_n 0, 1) := by decide +kernel
theorem dX6_init_13 : decode cX6_init 13 = .ok (.bipush 12, 2) := by decide +kernel
theorem dX6_init_15 : decode cX6_init 15 = .ok (.newarray .int, 2) := by decide +kernel
theorem dX6_init_17 : decode cX6_init 17 = .ok (.putfield 15, 3) := by decide +kernel
theorem dX6_init_20 : decode cX6_init 20 = .ok (.aload_n 0, 1) := by decide +kernel
theorem dX6_init_21 : decode cX6_init 21 = .ok (.bipush 12, 2) := by decide +kernel
theorem dX6_init_23 : decode cX6_init 23 = .ok (.newarray .int, 2) := by decide +kernel
theorem dX6_init_25 : decode cX6_init 25 = .ok (.putfield 18, 3) := by decide +kernel
theorem dX6_init_28 : decode cX6_init 28 = .ok (.aload_n 0, 1) := by decide +kernel
theorem dX6_init_29 : decode cX6_init 29 = .ok (.bipush 12, 2) := by decide +kernel
theorem dX6_init_31 : decode cX6_init 31 = .ok (.newarray .int, 2) := by decide +kernel
theorem dX6_init_33 : decode cX6_init 33 = .ok (.putfield 21, 3) := by decide +kernel
theorem dX6_init_36 : decode cX6_init 36 = .ok (.aload_n 0, 1) := by decide +kernel
theorem dX6_init_37 : decode cX6_init 37 = .ok (.bipush 12, 2) := by decide +kernel
theorem dX6_init_39 : decode cX6_init 39 = .ok (.newarray .int, 2) := by decide +kernel
theorem dX6_init_41 : decode cX6_init 41 = .ok (.putfield 24, 3) := by decide +kernel
theorem dX6_init_44 : decode cX6_init 44 = .ok (.aload_n 0, 1) := by decide +kernel
theorem dX6_init_45 : decode cX6_init 45 = .ok (.bipush 12, 2) := by decide +kernel
theorem dX6_init_47 : decode cX6_init 47 = .ok (.newarray .int, 2) := by decide +kernel
theorem dX6_init_49 : decode cX6_init 49 = .ok (.putfield 27, 3) := by decide +kernel
theorem dX6_init_52 : decode cX6_init 52 = .ok (.aload_n 0, 1) := by decide +kernel
theorem dX6_init_53 : decode cX6_init 53 = .ok (.iconst 0, 1) := by decide +kernel
theorem dX6_init_54 : decode cX6_init 54 = .ok (.putfield 30, 3) := by decide +kernel
theorem dX6_init_57 : decode cX6_init 57 = .ok (.return_, 1) := by decide +kernel
theorem dX6_write_0 : decode cX6_write 0 = .ok (.aload_n 0, 1) := by decide +kernel
theorem dX6_write_1 : decode cX6_write 1 = .ok (.getfield 30, 3) := by decide +kernel
theorem dX6_write_4 : decode cX6_write 4 = .ok (.istore_n 3, 1) := by decide +kernel
theorem dX6_write_5 : decode cX6_write 5 = .ok (.aload_n 0, 1) := by decide +kernel
theorem dX6_write_6 : decode cX6_write 6 = .ok (.getfield 9, 3) := by decide +kernel
theorem dX6_write_9 : decode cX6_write 9 = .ok (.iload_n 3, 1) := by decide +kernel
theorem dX6_write_10 : decode cX6_write 10 = .ok (.aload_n 1, 1) := by decide +kernel
theorem dX6_write_11 : decode cX6_write 11 = .ok (.getfield 34, 3) := by decide +kernel
theorem dX6_write_14 : decode cX6_write 14 = .ok (.iastore, 1) := by decide +kernel
theorem dX6_write_15 : decode cX6_write 15 = .ok (.aload_n 0, 1) := by decide +kernel
theorem dX6_write_16 : decode cX6_write 16 = .ok (.getfield 15, 3) := by decide +kernel
theorem dX6_write_19 : decode cX6_write 19 = .ok (.iload_n 3, 1) := by decide +kernel
theorem dX6_write_20 : decode cX6_write 20 = .ok (.aload_n 1, 1) := by decide +kernel
theorem dX6_write_21 : decode cX6_write 21 = .ok (.getfield 38, 3) := by decide +kernel
theorem dX6_write_24 : decode cX6_write 24 = .ok (.iastore, 1) := by decide +kernel
theorem dX6_write_25 : decode cX6_write 25 = .ok (.aload_n 0, 1) := by decide +kernel
theorem dX6_write_26 : decode cX6_write 26 = .ok (.getfield 18, 3) := by decide +kernel
theorem dX6_write_29 : decode cX6_write 29 = .ok (.iload_n 3, 1) := by decide +kernel
theorem dX6_write_30 : decode cX6_write 30 = .ok (.aload_n 1, 1) := by decide +kernel
theorem dX6_write_31 : decode cX6_write 31 = .ok (.getfield 40, 3) := by decide +kernel
theorem dX6_write_34 : decode cX6_write 34 = .ok (.iastore, 1) := by decide +kernel
theorem dX6_write_35 : decode cX6_write 35 = .ok (.aload_n 0, 1) := by decide +kernel
theorem dX6_write_36 : decode cX6_write 36 = .ok (.getfield 21, 3) := by decide +kernel
theorem dX6_write_39 : decode cX6_write 39 = .ok (.iload_n 3, 1) := by decide +kernel
theorem dX6_write_40 : decode cX6_write 40 = .ok (.aload_n 1, 1) := by decide +kernel
theorem dX6_write_41 : decode cX6_write 41 = .ok (.getfield 42, 3) := by decide +kernel
theorem dX6_write_44 : decode cX6_write 44 = .ok (.iastore, 1) := by decide +kernel
theorem dX6_write_45 : decode cX6_write 45 = .ok (.aload_n 0, 1) := by decide +kernel
theorem dX6_write_46 : decode cX6_write 46 = .ok (.getfield 24, 3) := by decide +kernel
theorem dX6_write_49 : decode cX6_write 49 = .ok (.iload_n 3, 1) := by decide +kernel
theorem dX6_write_50 : decode cX6_write 50 = .ok (.iload_n 2, 1) := by decide +kernel
theorem dX6_write_51 : decode cX6_write 51 = .ok (.iastore, 1) := by decide +kernel
theorem dX6_write_52 : decode cX6_write 52 = .ok (.aload_n 0, 1) := by decide +kernel
theorem dX6_write_53 : decode cX6_write 53 = .ok (.getfield 27, 3) := by decide +kernel
theorem dX6_write_56 : decode cX6_write 56 = .ok (.iload_n 3, 1) := by decide +kernel
theorem dX6_write_57 : decode cX6_write 57 = .ok (.bipush (-3), 2) := by decide +kernel
theorem dX6_write_59 : decode cX6_write 59 = .ok (.iastore, 1) := by decide +kernel
