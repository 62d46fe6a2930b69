theorem dX9_within_69 : decode cX9_within 69 = .ok (.iload 4, 2) := by decide +kernel
theorem dX9_within_71 : decode cX9_within 71 = .ok (.iaload, 1) := by decide +kernel
theorem dX9_within_72 : decode cX9_within 72 = .ok (.iconst 1, 1) := by decide +kernel
theorem dX9_within_73 : decode cX9_within 73 = .ok (.if_icmp .ne 40, 3) := by decide +kernel
theorem dX9_within_76 : decode cX9_within 76 = .ok (.iload 5, 2) := by decide +kernel
theorem dX9_within_78 : decode cX9_within 78 = .ok (.ifCond .eq 35, 3) := by decide +kernel
theorem dX9_within_81 : decode cX9_within 81 = .ok (.aload_n 0, 1) := by decide +kernel
theorem dX9_within_82 : decode cX9_within 82 = .ok (.iload 4, 2) := by decide +kernel
theorem dX9_within_84 : decode cX9_within 84 = .ok (.aload_n 0, 1) := by decide +kernel
theorem dX9_within_85 : decode cX9_within 85 = .ok (.getfield 119, 3) := by decide +kernel
theorem dX9_within_88 : decode cX9_within 88 = .ok (.invokevirtual 143, 3) := by decide +kernel
theorem dX9_within_91 : decode cX9_within 91 = .ok (.ifCond .eq 22, 3) := by decide +kernel
theorem dX9_within_94 : decode cX9_within 94 = .ok (.aload_n 0, 1) := by decide +kernel
theorem dX9_within_95 : decode cX9_within 95 = .ok (.getfield 38, 3) := by decide +kernel
theorem dX9_within_98 : decode cX9_within 98 = .ok (.iload 4, 2) := by decide +kernel
theorem dX9_within_100 : decode cX9_within 100 = .ok (.iaload, 1) := by decide +kernel
theorem dX9_within_101 : decode cX9_within 101 = .ok (.iload_n 3, 1) := by decide +kernel
theorem dX9_within_102 : decode cX9_within 102 = .ok (.if_icmp .le 11, 3) := by decide +kernel
theorem dX9_within_105 : decode cX9_within 105 = .ok (.aload_n 0, 1) := by decide +kernel
theorem dX9_within_106 : decode cX9_within 106 = .ok (.getfield 38, 3) := by decide +kernel
theorem dX9_within_109 : decode cX9_within 109 = .ok (.iload 4, 2) := by decide +kernel
theorem dX9_within_111 : decode cX9_within 111 = .ok (.iaload, 1) := by decide +kernel
theorem dX9_within_112 : decode cX9_within 112 = .ok (.istore_n 3, 1) := by decide +kernel
theorem dX9_within_113 : decode cX9_within 113 = .ok (.iinc 4 1, 3) := by decide +kernel
theorem dX9_within_116 : decode cX9_within 116 = .ok (.goto (-111), 3) := by decide +kernel
theorem dX9_within_119 : decode cX9_within 119 = .ok (.iload_n 3, 1) := by decide +kernel
theorem dX9_within_120 : decode cX9_within 120 = .ok (.ireturn, 1) := by decide +kernel
theorem dX9_quarrelOf_0 : decode cX9_quarrelOf 0 = .ok (.iconst 0, 1) := by decide +kernel
theorem dX9_quarrelOf_1 : decode cX9_quarrelOf 1 = .ok (.istore_n 2, 1) := by decide +kernel
theorem dX9_quarrelOf_2 : decode cX9_quarrelOf 2 = .ok (.iload_n 2, 1) := by decide +kernel
theorem dX9_quarrelOf_3 : decode cX9_quarrelOf 3 = .ok (.aload_n 0, 1) := by decide +kernel
theorem dX9_quarrelOf_4 : decode cX9_quarrelOf 4 = .ok (.getfield 113, 3) := by decide +kernel
theorem dX9_quarrelOf_7 : decode cX9_quarrelOf 7 = .ok (.if_icmp .ge 76, 3) := by decide +kernel
theorem dX9_quarrelOf_10 : decode cX9_quarrelOf 10 = .ok (.iload_n 2, 1) := by decide +kernel
theorem dX9_quarrelOf_11 : decode cX9_quarrelOf 11 = .ok (.iload_n 1, 1) := by decide +kernel
theorem dX9_quarrelOf_12 : decode cX9_quarrelOf 12 = .ok (.if_icmp .eq 65, 3) := by decide +kernel
theorem dX9_quarrelOf_15 : decode cX9_quarrelOf 15 = .ok (.aload_n 0, 1) := by decide +kernel
theorem dX9_quarrelOf_16 : decode cX9_quarrelOf 16 = .ok (.getfield 62, 3) := by decide +kernel
theorem dX9_quarrelOf_19 : decode cX9_quarrelOf 19 = .ok (.iload_n 2, 1) := by decide +kernel
theorem dX9_quarrelOf_20 : decode cX9_quarrelOf 20 = .ok (.iaload, 1) := by decide +kernel
theorem dX9_quarrelOf_21 : decode cX9_quarrelOf 21 = .ok (.iconst 3, 1) := by decide +kernel
theorem dX9_quarrelOf_22 : decode cX9_quarrelOf 22 = .ok (.if_icmp .ne 55, 3) := by decide +kernel
theorem dX9_quarrelOf_25 : decode cX9_quarrelOf 25 = .ok (.aload_n 0, 1) := by decide +kernel
theorem dX9_quarrelOf_26 : decode cX9_quarrelOf 26 = .ok (.aload_n 0, 1) := by decide +kernel
theorem dX9_quarrelOf_27 : decode cX9_quarrelOf 27 = .ok (.getfield 53, 3) := by decide +kernel
theorem dX9_quarrelOf_30 : decode cX9_quarrelOf 30 = .ok (.iload_n 1, 1) := by decide +kernel
theorem dX9_quarrelOf_31 : decode cX9_quarrelOf 31 = .ok (.iaload, 1) := by decide +kernel
theorem dX9_quarrelOf_32 : decode cX9_quarrelOf 32 = .ok (.aload_n 0, 1) := by decide +kernel
theorem dX9_quarrelOf_33 : decode cX9_quarrelOf 33 = .ok (.getfield 53, 3) := by decide +kernel
theorem dX9_quarrelOf_36 : decode cX9_quarrelOf 36 = .ok (.iload_n 2, 1) := by decide +kernel
theorem dX9_quarrelOf_37 : decode cX9_quarrelOf 37 = .ok (.iaload, 1) := by decide +kernel
theorem dX9_quarrelOf_38 : decode cX9_quarrelOf 38 = .ok (.iconst 1, 1) := by decide +kernel
theorem dX9_quarrelOf_39 : decode cX9_quarrelOf 39 = .ok (.invokevirtual 161, 3) := by decide +kernel
theorem dX9_quarrelOf_42 : decode cX9_quarrelOf 42 = .ok (.ifCond .lt 35, 3) := by decide +kernel
theorem dX9_quarrelOf_45 : decode cX9_quarrelOf 45 = .ok (.aload_n 0, 1) := by decide +kernel
theorem dX9_quarrelOf_46 : decode cX9_quarrelOf 46 = .ok (.getfield 86, 3) := by decide +kernel
theorem dX9_quarrelOf_49 : decode cX9_quarrelOf 49 = .ok (.aload_n 0, 1) := by decide +kernel
theorem dX9_quarrelOf_50 : decode cX9_quarrelOf 50 = .ok (.getfield 53, 3) := by decide +kernel
theorem dX9_quarrelOf_53 : decode cX9_quarrelOf 53 = .ok (.iload_n 2, 1) := by decide +kernel
theorem dX9_quarrelOf_54 : decode cX9_quarrelOf 54 = .ok (.iaload, 1) := by decide +kernel
theorem dX9_quarrelOf_55 : decode cX9_quarrelOf 55 = .ok (.iaload, 1) := by decide +kernel
theorem dX9_quarrelOf_56 : decode cX9_quarrelOf 56 = .ok (.aload_n 0, 1) := by decide +kernel
theorem dX9_quarrelOf_57 : decode cX9_quarrelOf 57 = .ok (.aload_n 0, 1) := by decide +kernel
theorem dX9_quarrelOf_58 : decode cX9_quarrelOf 58 = .ok (.getfield 56, 3) := by decide +kernel
theorem dX9_quarrelOf_61 : decode cX9_quarrelOf 61 = .ok (.iload_n 1, 1) := by decide +kernel
theorem dX9_quarrelOf_62 : decode cX9_quarrelOf 62 = .ok (.iaload, 1) := by decide +kernel
theorem dX9_quarrelOf_63 : decode cX9_quarrelOf 63 = .ok (.aload_n 0, 1) := by decide +kernel
theorem dX9_quarrelOf_64 : decode cX9_quarrelOf 64 = .ok (.getfield 56, 3) := by decide +kernel
theorem dX9_quarrelOf_67 : decode cX9_quarrelOf 67 = .ok (.iload_n 2, 1) := by decide +kernel
theorem dX9_quarrelOf_68 : decode cX9_quarrelOf 68 = .ok (.iaload, 1) := by decide +kernel
theorem dX9_quarrelOf_69 : decode cX9_quarrelOf 69 = .ok (.invokevirtual 270, 3) := by decide +kernel
theorem dX9_quarrelOf_72 : decode cX9_quarrelOf 72 = .ok (.if_icmp .gt 5, 3) := by decide +kernel
theorem dX9_quarrelOf_75 : decode cX9_quarrelOf 75 = .ok (.iload_n 2, 1) := by decide +kernel
theorem dX9_quarrelOf_76 : decode cX9_quarrelOf 76 = .ok (.ireturn, 1) := by decide +kernel
theorem dX9_quarrelOf_77 : decode cX9_quarrelOf 77 = .ok (.iinc 2 1, 3) := by decide +kernel
theorem dX9_quarrelOf_80 : decode cX9_quarrelOf 80 = .ok (.goto (-78), 3) := by decide +kernel
theorem dX9_quarrelOf_83 : decode cX9_quarrelOf 83 = .ok (.bipush (-3), 2) := by decide +kernel
theorem dX9_quarrelOf_85 : decode cX9_quarrelOf 85 = .ok (.ireturn, 1) := by decide +kernel
theorem dX9_isOutOfHours_0 : decode cX9_isOutOfHours 0 = .ok (.aload_n 0, 1) := by decide +kernel
theorem dX9_isOutOfHours_1 : decode cX9_isOutOfHours 1 = .ok (.getfield 119, 3) := by decide +kernel
theorem dX9_isOutOfHours_4 : decode cX9_isOutOfHours 4 = .ok (.bipush 24, 2) := by decide +kernel
theorem dX9_isOutOfHours_6 : decode cX9_isOutOfHours 6 = .ok (.irem, 1) := by decide +kernel
theorem dX9_isOutOfHours_7 : decode cX9_isOutOfHours 7 = .ok (.istore_n 2, 1) := by decide +kernel
theorem dX9_isOutOfHours_8 : decode cX9_isOutOfHours 8 = .ok (.iconst 0, 1) := by decide +kernel
theorem dX9_isOutOfHours_9 : decode cX9_isOutOfHours 9 = .ok (.istore_n 3, 1) := by decide +kernel
theorem dX9_isOutOfHours_10 : decode cX9_isOutOfHours 10 = .ok (.iconst 0, 1) := by decide +kernel
theorem dX9_isOutOfHours_11 : decode cX9_isOutOfHours 11 = .ok (.istore 4, 2) := by decide +kernel
theorem dX9_isOutOfHours_13 : decode cX9_isOutOfHours 13 = .ok (.iload 4, 2) := by decide +kernel
theorem dX9_isOutOfHours_15 : decode cX9_isOutOfHours 15 = .ok (.aload_n 0, 1) := by decide +kernel
theorem dX9_isOutOfHours_16 : decode cX9_isOutOfHours 16 = .ok (.getfield 140, 3) := by decide +kernel
theorem dX9_isOutOfHours_19 : decode cX9_isOutOfHours 19 = .ok (.if_icmp .ge 90, 3) := by decide +kernel
theorem dX9_isOutOfHours_22 : decode cX9_isOutOfHours 22 = .ok (.aload_n 0, 1) := by decide +kernel
theorem dX9_isOutOfHours_23 : decode cX9_isOutOfHours 23 = .ok (.getfield 35, 3) := by decide +kernel
theorem dX9_isOutOfHours_26 : decode cX9_isOutOfHours 26 = .ok (.iload 4, 2) := by decide +kernel
theorem dX9_isOutOfHours_28 : decode cX9_isOutOfHours 28 = .ok (.iaload, 1) := by decide +kernel
theorem dX9_isOutOfHours_29 : decode cX9_isOutOfHours 29 = .ok (.istore 5, 2) := by decide +kernel
theorem dX9_isOutOfHours_31 : decode cX9_isOutOfHours 31 = .ok (.aload_n 0, 1) := by decide +kernel
theorem dX9_isOutOfHours_32 : decode cX9_isOutOfHours 32 = .ok (.getfield 38, 3) := by decide +kernel
theorem dX9_isOutOfHours_35 : decode cX9_isOutOfHours 35 = .ok (.iload 4, 2) := by decide +kernel
theorem dX9_isOutOfHours_37 : decode cX9_isOutOfHours 37 = .ok (.iaload, 1) := by decide +kernel
theorem dX9_isOutOfHours_38 : decode cX9_isOutOfHours 38 = .ok (.istore 6, 2) := by decide +kernel
theorem dX9_isOutOfHours_40 : decode cX9_isOutOfHours 40 = .ok (.iload 5, 2) := by decide +kernel
theorem dX9_isOutOfHours_42 : decode cX9_isOutOfHours 42 = .ok (.iload 6, 2) := by decide +kernel
theorem dX9_isOutOfHours_44 : decode cX9_isOutOfHours 44 = .ok (.if_icmp .gt 14, 3) := by decide +kernel
theorem dX9_isOutOfHours_47 : decode cX9_isOutOfHours 47 = .ok (.iload_n 2, 1) := by decide +kernel
theorem dX9_isOutOfHours_48 : decode cX9_isOutOfHours 48 = .ok (.iload 5, 2) := by decide +kernel
theorem dX9_isOutOfHours_50 : decode cX9_isOutOfHours 50 = .ok (.iload 6, 2) := by decide +kernel
theorem dX9_isOutOfHours_52 : decode cX9_isOutOfHours 52 = .ok (.invokestatic 105, 3) := by decide +kernel
theorem dX9_isOutOfHours_55 : decode cX9_isOutOfHours 55 = .ok (.goto 20, 3) := by decide +kernel
theorem dX9_isOutOfHours_58 : decode cX9_isOutOfHours 58 = .ok (.iload_n 2, 1) := by decide +kernel
theorem dX9_isOutOfHours_59 : decode cX9_isOutOfHours 59 = .ok (.iload 5, 2) := by decide +kernel
theorem dX9_isOutOfHours_61 : decode cX9_isOutOfHours 61 = .ok (.if_icmp .ge 9, 3) := by decide +kernel
theorem dX9_isOutOfHours_64 : decode cX9_isOutOfHours 64 = .ok (.iload_n 2, 1) := by decide +kernel
theorem dX9_isOutOfHours_65 : decode cX9_isOutOfHours 65 = .ok (.iload 6, 2) := by decide +kernel
theorem dX9_isOutOfHours_67 : decode cX9_isOutOfHours 67 = .ok (.if_icmp .gt 7, 3) := by decide +kernel
theorem dX9_isOutOfHours_70 : decode cX9_isOutOfHours 70 = .ok (.iconst 1, 1) := by decide +kernel
theorem dX9_isOutOfHours_71 : decode cX9_isOutOfHours 71 = .ok (.goto 4, 3) := by decide +kernel
theorem dX9_isOutOfHours_74 : decode cX9_isOutOfHours 74 = .ok (.iconst 0, 1) := by decide +kernel
theorem dX9_isOutOfHours_75 : decode cX9_isOutOfHours 75 = .ok (.istore 7, 2) := by decide +kernel
theorem dX9_isOutOfHours_77 : decode cX9_isOutOfHours 77 = .ok (.iload_n 3, 1) := by decide +kernel
theorem dX9_isOutOfHours_78 : decode cX9_isOutOfHours 78 = .ok (.ifCond .ne 19, 3) := by decide +kernel
theorem dX9_isOutOfHours_81 : decode cX9_isOutOfHours 81 = .ok (.aload_n 0, 1) := by decide +kernel
theorem dX9_isOutOfHours_82 : decode cX9_isOutOfHours 82 = .ok (.iload 4, 2) := by decide +kernel
theorem dX9_isOutOfHours_84 : decode cX9_isOutOfHours 84 = .ok (.iconst 4, 1) := by decide +kernel
theorem dX9_isOutOfHours_85 : decode cX9_isOutOfHours 85 = .ok (.iload_n 1, 1) := by decide +kernel
theorem dX9_isOutOfHours_86 : decode cX9_isOutOfHours 86 = .ok (.invokevirtual 268, 3) := by decide +kernel
theorem dX9_isOutOfHours_89 : decode cX9_isOutOfHours 89 = .ok (.ifCond .eq 12, 3) := by decide +kernel
theorem dX9_isOutOfHours_92 : decode cX9_isOutOfHours 92 = .ok (.iload 7, 2) := by decide +kernel
theorem dX9_isOutOfHours_94 : decode cX9_isOutOfHours 94 = .ok (.ifCond .ne 7, 3) := by decide +kernel
theorem dX9_isOutOfHours_97 : decode cX9_isOutOfHours 97 = .ok (.iconst 1, 1) := by decide +kernel
theorem dX9_isOutOfHours_98 : decode cX9_isOutOfHours 98 = .ok (.goto 4, 3) := by decide +kernel
theorem dX9_isOutOfHours_101 : decode cX9_isOutOfHours 101 = .ok (.iconst 0, 1) := by decide +kernel
theorem dX9_isOutOfHours_102 : decode cX9_isOutOfHours 102 = .ok (.istore_n 3, 1) := by decide +kernel
theorem dX9_isOutOfHours_103 : decode cX9_isOutOfHours 103 = .ok (.iinc 4 1, 3) := by decide +kernel
theorem dX9_isOutOfHours_106 : decode cX9_isOutOfHours 106 = .ok (.goto (-93), 3) := by decide +kernel
theorem dX9_isOutOfHours_109 : decode cX9_isOutOfHours 109 = .ok (.iload_n 3, 1) := by decide +kernel
theorem dX9_isOutOfHours_110 : decode cX9_isOutOfHours 110 = .ok (.ireturn, 1) := by decide +kernel
theorem dX9_insideOf_0 : decode cX9_insideOf 0 = .ok (.iconst 0, 1) := by decide +kernel
theorem dX9_insideOf_1 : decode cX9_insideOf 1 = .ok (.istore_n 2, 1) := by decide +kernel
theorem dX9_insideOf_2 : decode cX9_insideOf 2 = .ok (.iconst 0, 1) := by decide +kernel
theorem dX9_insideOf_3 : decode cX9_insideOf 3 = .ok (.istore_n 3, 1) := by decide +kernel
theorem dX9_insideOf_4 : decode cX9_insideOf 4 = .ok (.iload_n 3, 1) := by decide +kernel
theorem dX9_insideOf_5 : decode cX9_insideOf 5 = .ok (.bipush 8, 2) := by decide +kernel
theorem dX9_insideOf_7 : decode cX9_insideOf 7 = .ok (.if_icmp .ge 27, 3) := by decide +kernel
theorem dX9_insideOf_10 : decode cX9_insideOf 10 = .ok (.iload_n 2, 1) := by decide +kernel
theorem dX9_insideOf_11 : decode cX9_insideOf 11 = .ok (.aload_n 0, 1) := by decide +kernel
theorem dX9_insideOf_12 : decode cX9_insideOf 12 = .ok (.getfield 50, 3) := by decide +kernel
theorem dX9_insideOf_15 : decode cX9_insideOf 15 = .ok (.iload_n 3, 1) := by decide +kernel
theorem dX9_insideOf_16 : decode cX9_insideOf 16 = .ok (.iaload, 1) := by decide +kernel
theorem dX9_insideOf_17 : decode cX9_insideOf 17 = .ok (.iload_n 1, 1) := by decide +kernel
theorem dX9_insideOf_18 : decode cX9_insideOf 18 = .ok (.if_icmp .ne 7, 3) := by decide +kernel
theorem dX9_insideOf_21 : decode cX9_insideOf 21 = .ok (.iconst 1, 1) := by decide +kernel
theorem dX9_insideOf_22 : decode cX9_insideOf 22 = .ok (.goto 4, 3) := by decide +kernel
theorem dX9_insideOf_25 : decode cX9_insideOf 25 = .ok (.iconst 0, 1) := by decide +kernel
theorem dX9_insideOf_26 : decode cX9_insideOf 26 = .ok (.iadd, 1) := by decide +kernel
theorem dX9_insideOf_27 : decode cX9_insideOf 27 = .ok (.istore_n 2, 1) := by decide +kernel
theorem dX9_insideOf_28 : decode cX9_insideOf 28 = .ok (.iinc 3 1, 3) := by decide +kernel
theorem dX9_insideOf_31 : decode cX9_insideOf 31 = .ok (.goto (-27), 3) := by decide +kernel
theorem dX9_insideOf_34 : decode cX9_insideOf 34 = .ok (.iload_n 2, 1) := by decide +kernel
theorem dX9_insideOf_35 : decode cX9_insideOf 35 = .ok (.ireturn, 1) := by decide +kernel
theorem dX9_areTooMany_0 : decode cX9_areTooMany 0 = .ok (.iconst 0, 1) := by decide +kernel
theorem dX9_areTooMany_1 : decode cX9_areTooMany 1 = .ok (.istore_n 2, 1) := by decide +kernel
theorem dX9_areTooMany_2 : decode cX9_areTooMany 2 = .ok (.iconst 0, 1) := by decide +kernel
theorem dX9_areTooMany_3 : decode cX9_areTooMany 3 = .ok (.istore_n 3, 1) := by decide +kernel
theorem dX9_areTooMany_4 : decode cX9_areTooMany 4 = .ok (.iload_n 3, 1) := by decide +kernel
theorem dX9_areTooMany_5 : decode cX9_areTooMany 5 = .ok (.aload_n 0, 1) := by decide +kernel
theorem dX9_areTooMany_6 : decode cX9_areTooMany 6 = .ok (.getfield 140, 3) := by decide +kernel
theorem dX9_areTooMany_9 : decode cX9_areTooMany 9 = .ok (.if_icmp .ge 43, 3) := by decide +kernel
theorem dX9_areTooMany_12 : decode cX9_areTooMany 12 = .ok (.iload_n 2, 1) := by decide +kernel
theorem dX9_areTooMany_13 : decode cX9_areTooMany 13 = .ok (.ifCond .ne 27, 3) := by decide +kernel
theorem dX9_areTooMany_16 : decode cX9_areTooMany 16 = .ok (.aload_n 0, 1) := by decide +kernel
theorem dX9_areTooMany_17 : decode cX9_areTooMany 17 = .ok (.iload_n 3, 1) := by decide +kernel
theorem dX9_areTooMany_18 : decode cX9_areTooMany 18 = .ok (.iconst 3, 1) := by decide +kernel
theorem dX9_areTooMany_19 : decode cX9_areTooMany 19 = .ok (.iload_n 1, 1) := by decide +kernel
theorem dX9_areTooMany_20 : decode cX9_areTooMany 20 = .ok (.invokevirtual 268, 3) := by decide +kernel
theorem dX9_areTooMany_23 : decode cX9_areTooMany 23 = .ok (.ifCond .eq 21, 3) := by decide +kernel
theorem dX9_areTooMany_26 : decode cX9_areTooMany 26 = .ok (.aload_n 0, 1) := by decide +kernel
theorem dX9_areTooMany_27 : decode cX9_areTooMany 27 = .ok (.iload_n 1, 1) := by decide +kernel
theorem dX9_areTooMany_28 : decode cX9_areTooMany 28 = .ok (.invokevirtual 273, 3) := by decide +kernel
theorem dX9_areTooMany_31 : decode cX9_areTooMany 31 = .ok (.aload_n 0, 1) := by decide +kernel
theorem dX9_areTooMany_32 : decode cX9_areTooMany 32 = .ok (.getfield 35, 3) := by decide +kernel
theorem dX9_areTooMany_35 : decode cX9_areTooMany 35 = .ok (.iload_n 3, 1) := by decide +kernel
theorem dX9_areTooMany_36 : decode cX9_areTooMany 36 = .ok (.iaload, 1) := by decide +kernel
theorem dX9_areTooMany_37 : decode cX9_areTooMany 37 = .ok (.if_icmp .lt 7, 3) := by decide +kernel
theorem dX9_areTooMany_40 : decode cX9_areTooMany 40 = .ok (.iconst 1, 1) := by decide +kernel
theorem dX9_areTooMany_41 : decode cX9_areTooMany 41 = .ok (.goto 4, 3) := by decide +kernel
theorem dX9_areTooMany_44 : decode cX9_areTooMany 44 = .ok (.iconst 0, 1) := by decide +kernel
theorem dX9_areTooMany_45 : decode cX9_areTooMany 45 = .ok (.istore_n 2, 1) := by decide +kernel
theorem dX9_areTooMany_46 : decode cX9_areTooMany 46 = .ok (.iinc 3 1, 3) := by decide +kernel
theorem dX9_areTooMany_49 : decode cX9_areTooMany 49 = .ok (.goto (-45), 3) := by decide +kernel
theorem dX9_areTooMany_52 : decode cX9_areTooMany 52 = .ok (.iload_n 2, 1) := by decide +kernel
theorem dX9_areTooMany_53 : decode cX9_areTooMany 53 = .ok (.ireturn, 1) := by decide +kernel
theorem dX9_isWatched_0 : decode cX9_isWatched 0 = .ok (.iconst 0, 1) := by decide +kernel
theorem dX9_isWatched_1 : decode cX9_isWatched 1 = .ok (.istore_n 2, 1) := by decide +kernel
theorem dX9_isWatched_2 : decode cX9_isWatched 2 = .ok (.iconst 0, 1) := by decide +kernel
theorem dX9_isWatched_3 : decode cX9_isWatched 3 = .ok (.istore_n 3, 1) := by decide +kernel
theorem dX9_isWatched_4 : decode cX9_isWatched 4 = .ok (.iload_n 3, 1) := by decide +kernel
theorem dX9_isWatched_5 : decode cX9_isWatched 5 = .ok (.aload_n 0, 1) := by decide +kernel
theorem dX9_isWatched_6 : decode cX9_isWatched 6 = .ok (.getfield 140, 3) := by decide +kernel
theorem dX9_isWatched_9 : decode cX9_isWatched 9 = .ok (.if_icmp .ge 58, 3) := by decide +kernel
theorem dX9_isWatched_12 : decode cX9_isWatched 12 = .ok (.iload_n 2, 1) := by decide +kernel
theorem dX9_isWatched_13 : decode cX9_isWatched 13 = .ok (.ifCond .ne 42, 3) := by decide +kernel
theorem dX9_isWatched_16 : decode cX9_isWatched 16 = .ok (.aload_n 0, 1) := by decide +kernel
theorem dX9_isWatched_17 : decode cX9_isWatched 17 = .ok (.iload_n 3, 1) := by decide +kernel
theorem dX9_isWatched_18 : decode cX9_isWatched 18 = .ok (.iconst 5, 1) := by decide +kernel
theorem dX9_isWatched_19 : decode cX9_isWatched 19 = .ok (.iload_n 1, 1) := by decide +kernel
theorem dX9_isWatched_20 : decode cX9_isWatched 20 = .ok (.invokevirtual 268, 3) := by decide +kernel
theorem dX9_isWatched_23 : decode cX9_isWatched 23 = .ok (.ifCond .eq 36, 3) := by decide +kernel
theorem dX9_isWatched_26 : decode cX9_isWatched 26 = .ok (.aload_n 0, 1) := by decide +kernel
theorem dX9_isWatched_27 : decode cX9_isWatched 27 = .ok (.getfield 74, 3) := by decide +kernel
theorem dX9_isWatched_30 : decode cX9_isWatched 30 = .ok (.iload_n 1, 1) := by decide +kernel
theorem dX9_isWatched_31 : decode cX9_isWatched 31 = .ok (.iaload, 1) := by decide +kernel
theorem dX9_isWatched_32 : decode cX9_isWatched 32 = .ok (.ifCond .lt 27, 3) := by decide +kernel
theorem dX9_isWatched_35 : decode cX9_isWatched 35 = .ok (.aload_n 0, 1) := by decide +kernel
theorem dX9_isWatched_36 : decode cX9_isWatched 36 = .ok (.getfield 119, 3) := by decide +kernel
theorem dX9_isWatched_39 : decode cX9_isWatched 39 = .ok (.aload_n 0, 1) := by decide +kernel
theorem dX9_isWatched_40 : decode cX9_isWatched 40 = .ok (.getfield 74, 3) := by decide +kernel
theorem dX9_isWatched_43 : decode cX9_isWatched 43 = .ok (.iload_n 1, 1) := by decide +kernel
theorem dX9_isWatched_44 : decode cX9_isWatched 44 = .ok (.iaload, 1) := by decide +kernel
theorem dX9_isWatched_45 : decode cX9_isWatched 45 = .ok (.isub, 1) := by decide +kernel
theorem dX9_isWatched_46 : decode cX9_isWatched 46 = .ok (.aload_n 0, 1) := by decide +kernel
theorem dX9_isWatched_47 : decode cX9_isWatched 47 = .ok (.getfield 35, 3) := by decide +kernel
theorem dX9_isWatched_50 : decode cX9_isWatched 50 = .ok (.iload_n 3, 1) := by decide +kernel
theorem dX9_isWatched_51 : decode cX9_isWatched 51 = .ok (.iaload, 1) := by decide +kernel
theorem dX9_isWatched_52 : decode cX9_isWatched 52 = .ok (.if_icmp .ge 7, 3) := by decide +kernel
theorem dX9_isWatched_55 : decode cX9_isWatched 55 = .ok (.iconst 1, 1) := by decide +kernel
theorem dX9_isWatched_56 : decode cX9_isWatched 56 = .ok (.goto 4, 3) := by decide +kernel
theorem dX9_isWatched_59 : decode cX9_isWatched 59 = .ok (.iconst 0, 1) := by decide +kernel
theorem dX9_isWatched_60 : decode cX9_isWatched 60 = .ok (.istore_n 2, 1) := by decide +kernel
theorem dX9_isWatched_61 : decode cX9_isWatched 61 = .ok (.iinc 3 1, 3) := by decide +kernel
theorem dX9_isWatched_64 : decode cX9_isWatched 64 = .ok (.goto (-60), 3) := by decide +kernel
theorem dX9_isWatched_67 : decode cX9_isWatched 67 = .ok (.iload_n 2, 1) := by decide +kernel
theorem dX9_isWatched_68 : decode cX9_isWatched 68 = .ok (.ireturn, 1) := by decide +kernel
theorem dX9_mayBegin_0 : decode cX9_mayBegin 0 = .ok (.aload_n 0, 1) := by decide +kernel
theorem dX9_mayBegin_1 : decode cX9_mayBegin 1 = .ok (.getfield 62, 3) := by decide +kernel
theorem dX9_mayBegin_4 : decode cX9_mayBegin 4 = .ok (.iload_n 1, 1) := by decide +kernel
theorem dX9_mayBegin_5 : decode cX9_mayBegin 5 = .ok (.iaload, 1) := by decide +kernel
theorem dX9_mayBegin_6 : decode cX9_mayBegin 6 = .ok (.iconst 1, 1) := by decide +kernel
theorem dX9_mayBegin_7 : decode cX9_mayBegin 7 = .ok (.if_icmp .eq 23, 3) := by decide +kernel
theorem dX9_mayBegin_10 : decode cX9_mayBegin 10 = .ok (.aload_n 0, 1) := by decide +kernel
theorem dX9_mayBegin_11 : decode cX9_mayBegin 11 = .ok (.getfield 62, 3) := by decide +kernel
theorem dX9_mayBegin_14 : decode cX9_mayBegin 14 = .ok (.iload_n 1, 1) := by decide +kernel
theorem dX9_mayBegin_15 : decode cX9_mayBegin 15 = .ok (.iaload, 1) := by decide +kernel
theorem dX9_mayBegin_16 : decode cX9_mayBegin 16 = .ok (.iconst 2, 1) := by decide +kernel
theorem dX9_mayBegin_17 : decode cX9_mayBegin 17 = .ok (.if_icmp .eq 13, 3) := by decide +kernel
theorem dX9_mayBegin_20 : decode cX9_mayBegin 20 = .ok (.aload_n 0, 1) := by decide +kernel
theorem dX9_mayBegin_21 : decode cX9_mayBegin 21 = .ok (.getfield 62, 3) := by decide +kernel
theorem dX9_mayBegin_24 : decode cX9_mayBegin 24 = .ok (.iload_n 1, 1) := by decide +kernel
theorem dX9_mayBegin_25 : decode cX9_mayBegin 25 = .ok (.iaload, 1) := by decide +kernel
theorem dX9_mayBegin_26 : decode cX9_mayBegin 26 = .ok (.iconst 4, 1) := by decide +kernel
theorem dX9_mayBegin_27 : decode cX9_mayBegin 27 = .ok (.if_icmp .ne 7, 3) := by decide +kernel
theorem dX9_mayBegin_30 : decode cX9_mayBegin 30 = .ok (.iconst 1, 1) := by decide +kernel
theorem dX9_mayBegin_31 : decode cX9_mayBegin 31 = .ok (.goto 4, 3) := by decide +kernel
theorem dX9_mayBegin_34 : decode cX9_mayBegin 34 = .ok (.iconst 0, 1) := by decide +kernel
theorem dX9_mayBegin_35 : decode cX9_mayBegin 35 = .ok (.ireturn, 1) := by decide +kernel
theorem dX9_isOutOfState_0 : decode cX9_isOutOfState 0 = .ok (.iload_n 2, 1) := by decide +kernel
theorem dX9_isOutOfState_1 : decode cX9_isOutOfState 1 = .ok (.tableswitch 78 0 4 #[35, 50, 64, 78, 64], 35) := by decide +kernel
theorem dX9_isOutOfState_36 : decode cX9_isOutOfState 36 = .ok (.aload_n 0, 1) := by decide +kernel
theorem dX9_isOutOfState_37 : decode cX9_isOutOfState 37 = .ok (.getfield 62, 3) := by decide +kernel
theorem dX9_isOutOfState_40 : decode cX9_isOutOfState 40 = .ok (.iload_n 1, 1) := by decide +kernel
theorem dX9_isOutOfState_41 : decode cX9_isOutOfState 41 = .ok (.iaload, 1) := by decide +kernel
theorem dX9_isOutOfState_42 : decode cX9_isOutOfState 42 = .ok (.ifCond .eq 7, 3) := by decide +kernel
theorem dX9_isOutOfState_45 : decode cX9_isOutOfState 45 = .ok (.iconst 1, 1) := by decide +kernel
theorem dX9_isOutOfState_46 : decode cX9_isOutOfState 46 = .ok (.goto 4, 3) := by decide +kernel
theorem dX9_isOutOfState_49 : decode cX9_isOutOfState 49 = .ok (.iconst 0, 1) := by decide +kernel
theorem dX9_isOutOfState_50 : decode cX9_isOutOfState 50 = .ok (.ireturn, 1) := by decide +kernel
theorem dX9_isOutOfState_51 : decode cX9_isOutOfState 51 = .ok (.aload_n 0, 1) := by decide +kernel
theorem dX9_isOutOfState_52 : decode cX9_isOutOfState 52 = .ok (.iload_n 1, 1) := by decide +kernel
theorem dX9_isOutOfState_53 : decode cX9_isOutOfState 53 = .ok (.invokevirtual 122, 3) := by decide +kernel
theorem dX9_isOutOfState_56 : decode cX9_isOutOfState 56 = .ok (.ifCond .ne 7, 3) := by decide +kernel
theorem dX9_isOutOfState_59 : decode cX9_isOutOfState 59 = .ok (.iconst 1, 1) := by decide +kernel
theorem dX9_isOutOfState_60 : decode cX9_isOutOfState 60 = .ok (.goto 4, 3) := by decide +kernel
theorem dX9_isOutOfState_63 : decode cX9_isOutOfState 63 = .ok (.iconst 0, 1) := by decide +kernel
theorem dX9_isOutOfState_64 : decode cX9_isOutOfState 64 = .ok (.ireturn, 1) := by decide +kernel
theorem dX9_isOutOfState_65 : decode cX9_isOutOfState 65 = .ok (.aload_n 0, 1) := by decide +kernel
theorem dX9_isOutOfState_66 : decode cX9_isOutOfState 66 = .ok (.iload_n 1, 1) := by decide +kernel
theorem dX9_isOutOfState_67 : decode cX9_isOutOfState 67 = .ok (.invokevirtual 276, 3) := by decide +kernel
theorem dX9_isOutOfState_70 : decode cX9_isOutOfState 70 = .ok (.ifCond .ne 7, 3) := by decide +kernel
theorem dX9_isOutOfState_73 : decode cX9_isOutOfState 73 = .ok (.iconst 1, 1) := by decide +kernel
theorem dX9_isOutOfState_74 : decode cX9_isOutOfState 74 = .ok (.goto 4, 3) := by decide +kernel
theorem dX9_isOutOfState_77 : decode cX9_isOutOfState 77 = .ok (.iconst 0, 1) := by decide +kernel
theorem dX9_isOutOfState_78 : decode cX9_isOutOfState 78 = .ok (.ireturn, 1) := by decide +kernel
theorem dX9_isOutOfState_79 : decode cX9_isOutOfState 79 = .ok (.aload_n 0, 1) := by decide +kernel
theorem dX9_isOutOfState_80 : decode cX9_isOutOfState 80 = .ok (.getfield 62, 3) := by decide +kernel
theorem dX9_isOutOfState_83 : decode cX9_isOutOfState 83 = .ok (.iload_n 1, 1) := by decide +kernel
theorem dX9_isOutOfState_84 : decode cX9_isOutOfState 84 = .ok (.iaload, 1) := by decide +kernel
theorem dX9_isOutOfState_85 : decode cX9_isOutOfState 85 = .ok (.iconst 3, 1) := by decide +kernel
theorem dX9_isOutOfState_86 : decode cX9_isOutOfState 86 = .ok (.if_icmp .eq 7, 3) := by decide +kernel
theorem dX9_isOutOfState_89 : decode cX9_isOutOfState 89 = .ok (.iconst 1, 1) := by decide +kernel
theorem dX9_isOutOfState_90 : decode cX9_isOutOfState 90 = .ok (.goto 4, 3) := by decide +kernel
theorem dX9_isOutOfState_93 : decode cX9_isOutOfState 93 = .ok (.iconst 0, 1) := by decide +kernel
theorem dX9_isOutOfState_94 : decode cX9_isOutOfState 94 = .ok (.ireturn, 1) := by decide +kernel
theorem dX9_startBar_0 : decode cX9_startBar 0 = .ok (.aload_n 0, 1) := by decide +kernel
theorem dX9_startBar_1 : decode cX9_startBar 1 = .ok (.aload_n 0, 1) := by decide +kernel
theorem dX9_startBar_2 : decode cX9_startBar 2 = .ok (.getfield 53, 3) := by decide +kernel
theorem dX9_startBar_5 : decode cX9_startBar 5 = .ok (.iload_n 1, 1) := by decide +kernel
theorem dX9_startBar_6 : decode cX9_startBar 6 = .ok (.iaload, 1) := by decide +kernel
theorem dX9_startBar_7 : decode cX9_startBar 7 = .ok (.aload_n 0, 1) := by decide +kernel
theorem dX9_startBar_8 : decode cX9_startBar 8 = .ok (.invokevirtual 133, 3) := by decide +kernel
theorem dX9_startBar_11 : decode cX9_startBar 11 = .ok (.invokevirtual 158, 3) := by decide +kernel
theorem dX9_startBar_14 : decode cX9_startBar 14 = .ok (.ifCond .ne 5, 3) := by decide +kernel
theorem dX9_startBar_17 : decode cX9_startBar 17 = .ok (.iconst 2, 1) := by decide +kernel
theorem dX9_startBar_18 : decode cX9_startBar 18 = .ok (.ireturn, 1) := by decide +kernel
theorem dX9_startBar_19 : decode cX9_startBar 19 = .ok (.aload_n 0, 1) := by decide +kernel
theorem dX9_startBar_20 : decode cX9_startBar 20 = .ok (.iload_n 1, 1) := by decide +kernel
theorem dX9_startBar_21 : decode cX9_startBar 21 = .ok (.invokevirtual 279, 3) := by decide +kernel
theorem dX9_startBar_24 : decode cX9_startBar 24 = .ok (.ifCond .eq 5, 3) := by decide +kernel
theorem dX9_startBar_27 : decode cX9_startBar 27 = .ok (.iconst 3, 1) := by decide +kernel
theorem dX9_startBar_28 : decode cX9_startBar 28 = .ok (.ireturn, 1) := by decide +kernel
theorem dX9_startBar_29 : decode cX9_startBar 29 = .ok (.aload_n 0, 1) := by decide +kernel
theorem dX9_startBar_30 : decode cX9_startBar 30 = .ok (.iload_n 1, 1) := by decide +kernel
theorem dX9_startBar_31 : decode cX9_startBar 31 = .ok (.invokevirtual 282, 3) := by decide +kernel
theorem dX9_startBar_34 : decode cX9_startBar 34 = .ok (.ifCond .lt 5, 3) := by decide +kernel
theorem dX9_startBar_37 : decode cX9_startBar 37 = .ok (.iconst 4, 1) := by decide +kernel
theorem dX9_startBar_38 : decode cX9_startBar 38 = .ok (.ireturn, 1) := by decide +kernel
theorem dX9_startBar_39 : decode cX9_startBar 39 = .ok (.aload_n 0, 1) := by decide +kernel
theorem dX9_startBar_40 : decode cX9_startBar 40 = .ok (.iload_n 1, 1) := by decide +kernel
theorem dX9_startBar_41 : decode cX9_startBar 41 = .ok (.invokevirtual 285, 3) := by decide +kernel
theorem dX9_startBar_44 : decode cX9_startBar 44 = .ok (.ifCond .eq 5, 3) := by decide +kernel
theorem dX9_startBar_47 : decode cX9_startBar 47 = .ok (.iconst 5, 1) := by decide +kernel
theorem dX9_startBar_48 : decode cX9_startBar 48 = .ok (.ireturn, 1) := by decide +kernel
theorem dX9_startBar_49 : decode cX9_startBar 49 = .ok (.aload_n 0, 1) := by decide +kernel
theorem dX9_startBar_50 : decode cX9_startBar 50 = .ok (.getfield 65, 3) := by decide +kernel
theorem dX9_startBar_53 : decode cX9_startBar 53 = .ok (.iload_n 1, 1) := by decide +kernel
theorem dX9_startBar_54 : decode cX9_startBar 54 = .ok (.iaload, 1) := by decide +kernel
theorem dX9_startBar_55 : decode cX9_startBar 55 = .ok (.ifCond .lt 17, 3) := by decide +kernel
theorem dX9_startBar_58 : decode cX9_startBar 58 = .ok (.aload_n 0, 1) := by decide +kernel
theorem dX9_startBar_59 : decode cX9_startBar 59 = .ok (.getfield 47, 3) := by decide +kernel
theorem dX9_startBar_62 : decode cX9_startBar 62 = .ok (.aload_n 0, 1) := by decide +kernel
theorem dX9_startBar_63 : decode cX9_startBar 63 = .ok (.getfield 65, 3) := by decide +kernel
theorem dX9_startBar_66 : decode cX9_startBar 66 = .ok (.iload_n 1, 1) := by decide +kernel
theorem dX9_startBar_67 : decode cX9_startBar 67 = .ok (.iaload, 1) := by decide +kernel
theorem dX9_startBar_68 : decode cX9_startBar 68 = .ok (.baload, 1) := by decide +kernel
theorem dX9_startBar_69 : decode cX9_startBar 69 = .ok (.ifCond .eq 8, 3) := by decide +kernel
theorem dX9_startBar_72 : decode cX9_startBar 72 = .ok (.bipush 6, 2) := by decide +kernel
theorem dX9_startBar_74 : decode cX9_startBar 74 = .ok (.goto 4, 3) := by decide +kernel
theorem dX9_startBar_77 : decode cX9_startBar 77 = .ok (.iconst 0, 1) := by decide +kernel
theorem dX9_startBar_78 : decode cX9_startBar 78 = .ok (.ireturn, 1) := by decide +kernel
theorem dX9_bar_0 : decode cX9_bar 0 = .ok (.aload_n 0, 1) := by decide +kernel
theorem dX9_bar_1 : decode cX9_bar 1 = .ok (.iload_n 1, 1) := by decide +kernel
theorem dX9_bar_2 : decode cX9_bar 2 = .ok (.iload_n 2, 1) := by decide +kernel
theorem dX9_bar_3 : decode cX9_bar 3 = .ok (.invokevirtual 288, 3) := by decide +kernel
theorem dX9_bar_6 : decode cX9_bar 6 = .ok (.ifCond .eq 5, 3) := by decide +kernel
theorem dX9_bar_9 : decode cX9_bar 9 = .ok (.iconst 1, 1) := by decide +kernel
theorem dX9_bar_10 : decode cX9_bar 10 = .ok (.ireturn, 1) := by decide +kernel
theorem dX9_bar_11 : decode cX9_bar 11 = .ok (.iload_n 2, 1) := by decide +kernel
theorem dX9_bar_12 : decode cX9_bar 12 = .ok (.tableswitch 120 2 5 #[32, 38, 53, 81], 32) := by decide +kernel
theorem dX9_bar_44 : decode cX9_bar 44 = .ok (.aload_n 0, 1) := by decide +kernel
theorem dX9_bar_45 : decode cX9_bar 45 = .ok (.iload_n 1, 1) := by decide +kernel
theorem dX9_bar_46 : decode cX9_bar 46 = .ok (.invokevirtual 291, 3) := by decide +kernel
theorem dX9_bar_49 : decode cX9_bar 49 = .ok (.ireturn, 1) := by decide +kernel
theorem dX9_bar_50 : decode cX9_bar 50 = .ok (.aload_n 0, 1) := by decide +kernel
theorem dX9_bar_51 : decode cX9_bar 51 = .ok (.iload_n 1, 1) := by decide +kernel
theorem dX9_bar_52 : decode cX9_bar 52 = .ok (.invokevirtual 273, 3) := by decide +kernel
theorem dX9_bar_55 : decode cX9_bar 55 = .ok (.ifCond .le 8, 3) := by decide +kernel
theorem dX9_bar_58 : decode cX9_bar 58 = .ok (.bipush 7, 2) := by decide +kernel
theorem dX9_bar_60 : decode cX9_bar 60 = .ok (.goto 4, 3) := by decide +kernel
theorem dX9_bar_63 : decode cX9_bar 63 = .ok (.iconst 0, 1) := by decide +kernel
theorem dX9_bar_64 : decode cX9_bar 64 = .ok (.ireturn, 1) := by decide +kernel
theorem dX9_bar_65 : decode cX9_bar 65 = .ok (.aload_n 0, 1) := by decide +kernel
theorem dX9_bar_66 : decode cX9_bar 66 = .ok (.iload_n 1, 1) := by decide +kernel
theorem dX9_bar_67 : decode cX9_bar 67 = .ok (.invokevirtual 273, 3) := by decide +kernel
theorem dX9_bar_70 : decode cX9_bar 70 = .ok (.ifCond .le 8, 3) := by decide +kernel
theorem dX9_bar_73 : decode cX9_bar 73 = .ok (.bipush 7, 2) := by decide +kernel
theorem dX9_bar_75 : decode cX9_bar 75 = .ok (.goto 17, 3) := by decide +kernel
theorem dX9_bar_78 : decode cX9_bar 78 = .ok (.aload_n 0, 1) := by decide +kernel
theorem dX9_bar_79 : decode cX9_bar 79 = .ok (.iload_n 1, 1) := by decide +kernel
theorem dX9_bar_80 : decode cX9_bar 80 = .ok (.invokevirtual 294, 3) := by decide +kernel
theorem dX9_bar_83 : decode cX9_bar 83 = .ok (.ifCond .eq 8, 3) := by decide +kernel
theorem dX9_bar_86 : decode cX9_bar 86 = .ok (.bipush 8, 2) := by decide +kernel
theorem dX9_bar_88 : decode cX9_bar 88 = .ok (.goto 4, 3) := by decide +kernel
theorem dX9_bar_91 : decode cX9_bar 91 = .ok (.iconst 0, 1) := by decide +kernel
theorem dX9_bar_92 : decode cX9_bar 92 = .ok (.ireturn, 1) := by decide +kernel
theorem dX9_bar_93 : decode cX9_bar 93 = .ok (.aload_n 0, 1) := by decide +kernel
theorem dX9_bar_94 : decode cX9_bar 94 = .ok (.iload_n 1, 1) := by decide +kernel
theorem dX9_bar_95 : decode cX9_bar 95 = .ok (.invokevirtual 279, 3) := by decide +kernel
theorem dX9_bar_98 : decode cX9_bar 98 = .ok (.ifCond .eq 7, 3) := by decide +kernel
theorem dX9_bar_101 : decode cX9_bar 101 = .ok (.iconst 3, 1) := by decide +kernel
theorem dX9_bar_102 : decode cX9_bar 102 = .ok (.goto 29, 3) := by decide +kernel
theorem dX9_bar_105 : decode cX9_bar 105 = .ok (.aload_n 0, 1) := by decide +kernel
theorem dX9_bar_106 : decode cX9_bar 106 = .ok (.iload_n 1, 1) := by decide +kernel
theorem dX9_bar_107 : decode cX9_bar 107 = .ok (.invokevirtual 285, 3) := by decide +kernel
theorem dX9_bar_110 : decode cX9_bar 110 = .ok (.ifCond .eq 7, 3) := by decide +kernel
theorem dX9_bar_113 : decode cX9_bar 113 = .ok (.iconst 5, 1) := by decide +kernel
theorem dX9_bar_114 : decode cX9_bar 114 = .ok (.goto 17, 3) := by decide +kernel
theorem dX9_bar_117 : decode cX9_bar 117 = .ok (.aload_n 0, 1) := by decide +kernel
theorem dX9_bar_118 : decode cX9_bar 118 = .ok (.iload_n 1, 1) := by decide +kernel
theorem dX9_bar_119 : decode cX9_bar 119 = .ok (.invokevirtual 297, 3) := by decide +kernel
theorem dX9_bar_122 : decode cX9_bar 122 = .ok (.ifCond .eq 8, 3) := by decide +kernel
theorem dX9_bar_125 : decode cX9_bar 125 = .ok (.bipush 7, 2) := by decide +kernel
theorem dX9_bar_127 : decode cX9_bar 127 = .ok (.goto 4, 3) := by decide +kernel
theorem dX9_bar_130 : decode cX9_bar 130 = .ok (.iconst 0, 1) := by decide +kernel
theorem dX9_bar_131 : decode cX9_bar 131 = .ok (.ireturn, 1) := by decide +kernel
theorem dX9_bar_132 : decode cX9_bar 132 = .ok (.iconst 0, 1) := by decide +kernel
theorem dX9_bar_133 : decode cX9_bar 133 = .ok (.ireturn, 1) := by decide +kernel
theorem dX9_isolate_0 : decode cX9_isolate 0 = .ok (.aload_n 0, 1) := by decide +kernel
theorem dX9_isolate_1 : decode cX9_isolate 1 = .ok (.iload_n 1, 1) := by decide +kernel
theorem dX9_isolate_2 : decode cX9_isolate 2 = .ok (.invokevirtual 262, 3) := by decide +kernel
theorem dX9_isolate_5 : decode cX9_isolate 5 = .ok (.ifCond .ne 5, 3) := by decide +kernel
theorem dX9_isolate_8 : decode cX9_isolate 8 = .ok (.iconst (-1), 1) := by decide +kernel
theorem dX9_isolate_9 : decode cX9_isolate 9 = .ok (.ireturn, 1) := by decide +kernel
theorem dX9_isolate_10 : decode cX9_isolate 10 = .ok (.aload_n 0, 1) := by decide +kernel
theorem dX9_isolate_11 : decode cX9_isolate 11 = .ok (.iload_n 1, 1) := by decide +kernel
theorem dX9_isolate_12 : decode cX9_isolate 12 = .ok (.iconst 0, 1) := by decide +kernel
theorem dX9_isolate_13 : decode cX9_isolate 13 = .ok (.invokevirtual 300, 3) := by decide +kernel
theorem dX9_isolate_16 : decode cX9_isolate 16 = .ok (.ifCond .le 13, 3) := by decide +kernel
theorem dX9_isolate_19 : decode cX9_isolate 19 = .ok (.bipush (-10), 2) := by decide +kernel
theorem dX9_isolate_21 : decode cX9_isolate 21 = .ok (.aload_n 0, 1) := by decide +kernel
theorem dX9_isolate_22 : decode cX9_isolate 22 = .ok (.iload_n 1, 1) := by decide +kernel
theorem dX9_isolate_23 : decode cX9_isolate 23 = .ok (.iconst 0, 1) := by decide +kernel
theorem dX9_isolate_24 : decode cX9_isolate 24 = .ok (.invokevirtual 300, 3) := by decide +kernel
theorem dX9_isolate_27 : decode cX9_isolate 27 = .ok (.isub, 1) := by decide +kernel
theorem dX9_isolate_28 : decode cX9_isolate 28 = .ok (.ireturn, 1) := by decide +kernel
theorem dX9_isolate_29 : decode cX9_isolate 29 = .ok (.aload_n 0, 1) := by decide +kernel
theorem dX9_isolate_30 : decode cX9_isolate 30 = .ok (.invokevirtual 133, 3) := by decide +kernel
theorem dX9_isolate_33 : decode cX9_isolate 33 = .ok (.istore_n 2, 1) := by decide +kernel
theorem dX9_isolate_34 : decode cX9_isolate 34 = .ok (.aload_n 0, 1) := by decide +kernel
theorem dX9_isolate_35 : decode cX9_isolate 35 = .ok (.getfield 62, 3) := by decide +kernel
theorem dX9_isolate_38 : decode cX9_isolate 38 = .ok (.iload_n 1, 1) := by decide +kernel
theorem dX9_isolate_39 : decode cX9_isolate 39 = .ok (.iconst 1, 1) := by decide +kernel
theorem dX9_isolate_40 : decode cX9_isolate 40 = .ok (.iastore, 1) := by decide +kernel
theorem dX9_isolate_41 : decode cX9_isolate 41 = .ok (.aload_n 0, 1) := by decide +kernel
theorem dX9_isolate_42 : decode cX9_isolate 42 = .ok (.invokevirtual 133, 3) := by decide +kernel
theorem dX9_isolate_45 : decode cX9_isolate 45 = .ok (.invokestatic 303, 3) := by decide +kernel
theorem dX9_isolate_48 : decode cX9_isolate 48 = .ok (.iload_n 2, 1) := by decide +kernel
theorem dX9_isolate_49 : decode cX9_isolate 49 = .ok (.invokestatic 303, 3) := by decide +kernel
theorem dX9_isolate_52 : decode cX9_isolate 52 = .ok (.isub, 1) := by decide +kernel
theorem dX9_isolate_53 : decode cX9_isolate 53 = .ok (.ireturn, 1) := by decide +kernel
theorem dX9_test_0 : decode cX9_test 0 = .ok (.aload_n 0, 1) := by decide +kernel
theorem dX9_test_1 : decode cX9_test 1 = .ok (.iload_n 1, 1) := by decide +kernel
theorem dX9_test_2 : decode cX9_test 2 = .ok (.invokevirtual 262, 3) := by decide +kernel
theorem dX9_test_5 : decode cX9_test 5 = .ok (.ifCond .eq 13, 3) := by decide +kernel
theorem dX9_test_8 : decode cX9_test 8 = .ok (.iload_n 2, 1) := by decide +kernel
theorem dX9_test_9 : decode cX9_test 9 = .ok (.iconst 0, 1) := by decide +kernel
theorem dX9_test_10 : decode cX9_test 10 = .ok (.bipush 100, 2) := by decide +kernel
theorem dX9_test_12 : decode cX9_test 12 = .ok (.invokestatic 105, 3) := by decide +kernel
theorem dX9_test_15 : decode cX9_test 15 = .ok (.ifCond .ne 5, 3) := by decide +kernel
theorem dX9_test_18 : decode cX9_test 18 = .ok (.iconst (-1), 1) := by decide +kernel
theorem dX9_test_19 : decode cX9_test 19 = .ok (.ireturn, 1) := by decide +kernel
theorem dX9_test_20 : decode cX9_test 20 = .ok (.aload_n 0, 1) := by decide +kernel
theorem dX9_test_21 : decode cX9_test 21 = .ok (.iload_n 1, 1) := by decide +kernel
theorem dX9_test_22 : decode cX9_test 22 = .ok (.iconst 1, 1) := by decide +kernel
theorem dX9_test_23 : decode cX9_test 23 = .ok (.invokevirtual 300, 3) := by decide +kernel
theorem dX9_test_26 : decode cX9_test 26 = .ok (.ifCond .le 13, 3) := by decide +kernel
theorem dX9_test_29 : decode cX9_test 29 = .ok (.bipush (-10), 2) := by decide +kernel
theorem dX9_test_31 : decode cX9_test 31 = .ok (.aload_n 0, 1) := by decide +kernel
theorem dX9_test_32 : decode cX9_test 32 = .ok (.iload_n 1, 1) := by decide +kernel
theorem dX9_test_33 : decode cX9_test 33 = .ok (.iconst 1, 1) := by decide +kernel
theorem dX9_test_34 : decode cX9_test 34 = .ok (.invokevirtual 300, 3) := by decide +kernel
theorem dX9_test_37 : decode cX9_test 37 = .ok (.isub, 1) := by decide +kernel
theorem dX9_test_38 : decode cX9_test 38 = .ok (.ireturn, 1) := by decide +kernel
theorem dX9_test_39 : decode cX9_test 39 = .ok (.aload_n 0, 1) := by decide +kernel
theorem dX9_test_40 : decode cX9_test 40 = .ok (.getfield 68, 3) := by decide +kernel
theorem dX9_test_43 : decode cX9_test 43 = .ok (.iload_n 1, 1) := by decide +kernel
theorem dX9_test_44 : decode cX9_test 44 = .ok (.iload_n 2, 1) := by decide +kernel
theorem dX9_test_45 : decode cX9_test 45 = .ok (.iastore, 1) := by decide +kernel
theorem dX9_test_46 : decode cX9_test 46 = .ok (.aload_n 0, 1) := by decide +kernel
theorem dX9_test_47 : decode cX9_test 47 = .ok (.getfield 71, 3) := by decide +kernel
theorem dX9_test_50 : decode cX9_test 50 = .ok (.iload_n 1, 1) := by decide +kernel
theorem dX9_test_51 : decode cX9_test 51 = .ok (.aload_n 0, 1) := by decide +kernel
theorem dX9_test_52 : decode cX9_test 52 = .ok (.getfield 119, 3) := by decide +kernel
theorem dX9_test_55 : decode cX9_test 55 = .ok (.iastore, 1) := by decide +kernel
theorem dX9_test_56 : decode cX9_test 56 = .ok (.aload_n 0, 1) := by decide +kernel
theorem dX9_test_57 : decode cX9_test 57 = .ok (.getfield 62, 3) := by decide +kernel
theorem dX9_test_60 : decode cX9_test 60 = .ok (.iload_n 1, 1) := by decide +kernel
theorem dX9_test_61 : decode cX9_test 61 = .ok (.aload_n 0, 1) := by decide +kernel
theorem dX9_test_62 : decode cX9_test 62 = .ok (.getfield 62, 3) := by decide +kernel
theorem dX9_test_65 : decode cX9_test 65 = .ok (.iload_n 1, 1) := by decide +kernel
theorem dX9_test_66 : decode cX9_test 66 = .ok (.iaload, 1) := by decide +kernel
theorem dX9_test_67 : decode cX9_test 67 = .ok (.iconst 1, 1) := by decide +kernel
theorem dX9_test_68 : decode cX9_test 68 = .ok (.if_icmp .ne 7, 3) := by decide +kernel
theorem dX9_test_71 : decode cX9_test 71 = .ok (.iconst 2, 1) := by decide +kernel
theorem dX9_test_72 : decode cX9_test 72 = .ok (.goto 9, 3) := by decide +kernel
theorem dX9_test_75 : decode cX9_test 75 = .ok (.aload_n 0, 1) := by decide +kernel
theorem dX9_test_76 : decode cX9_test 76 = .ok (.getfield 62, 3) := by decide +kernel
theorem dX9_test_79 : decode cX9_test 79 = .ok (.iload_n 1, 1) := by decide +kernel
theorem dX9_test_80 : decode cX9_test 80 = .ok (.iaload, 1) := by decide +kernel
theorem dX9_test_81 : decode cX9_test 81 = .ok (.iastore, 1) := by decide +kernel
theorem dX9_test_82 : decode cX9_test 82 = .ok (.iload_n 2, 1) := by decide +kernel
theorem dX9_test_83 : decode cX9_test 83 = .ok (.bipush 10, 2) := by decide +kernel
theorem dX9_test_85 : decode cX9_test 85 = .ok (.if_icmp .gt 7, 3) := by decide +kernel
theorem dX9_test_88 : decode cX9_test 88 = .ok (.iconst 1, 1) := by decide +kernel
theorem dX9_test_89 : decode cX9_test 89 = .ok (.goto 4, 3) := by decide +kernel
theorem dX9_test_92 : decode cX9_test 92 = .ok (.iconst 0, 1) := by decide +kernel
theorem dX9_test_93 : decode cX9_test 93 = .ok (.ireturn, 1) := by decide +kernel
theorem dX9_start_0 : decode cX9_start 0 = .ok (.aload_n 0, 1) := by decide +kernel
theorem dX9_start_1 : decode cX9_start 1 = .ok (.iload_n 1, 1) := by decide +kernel
theorem dX9_start_2 : decode cX9_start 2 = .ok (.invokevirtual 262, 3) := by decide +kernel
theorem dX9_start_5 : decode cX9_start 5 = .ok (.ifCond .ne 5, 3) := by decide +kernel
theorem dX9_start_8 : decode cX9_start 8 = .ok (.iconst (-1), 1) := by decide +kernel
theorem dX9_start_9 : decode cX9_start 9 = .ok (.ireturn, 1) := by decide +kernel
theorem dX9_start_10 : decode cX9_start 10 = .ok (.aload_n 0, 1) := by decide +kernel
theorem dX9_start_11 : decode cX9_start 11 = .ok (.iload_n 1, 1) := by decide +kernel
theorem dX9_start_12 : decode cX9_start 12 = .ok (.iconst 2, 1) := by decide +kernel
theorem dX9_start_13 : decode cX9_start 13 = .ok (.invokevirtual 300, 3) := by decide +kernel
theorem dX9_start_16 : decode cX9_start 16 = .ok (.istore_n 2, 1) := by decide +kernel
theorem dX9_start_17 : decode cX9_start 17 = .ok (.iload_n 2, 1) := by decide +kernel
theorem dX9_start_18 : decode cX9_start 18 = .ok (.ifCond .le 8, 3) := by decide +kernel
theorem dX9_start_21 : decode cX9_start 21 = .ok (.bipush (-10), 2) := by decide +kernel
theorem dX9_start_23 : decode cX9_start 23 = .ok (.iload_n 2, 1) := by decide +kernel
theorem dX9_start_24 : decode cX9_start 24 = .ok (.isub, 1) := by decide +kernel
theorem dX9_start_25 : decode cX9_start 25 = .ok (.ireturn, 1) := by decide +kernel
theorem dX9_start_26 : decode cX9_start 26 = .ok (.aload_n 0, 1) := by decide +kernel
theorem dX9_start_27 : decode cX9_start 27 = .ok (.getfield 62, 3) := by decide +kernel
theorem dX9_start_30 : decode cX9_start 30 = .ok (.iload_n 1, 1) := by decide +kernel
theorem dX9_start_31 : decode cX9_start 31 = .ok (.iconst 3, 1) := by decide +kernel
theorem dX9_start_32 : decode cX9_start 32 = .ok (.iastore, 1) := by decide +kernel
theorem dX9_start_33 : decode cX9_start 33 = .ok (.iconst 1, 1) := by decide +kernel
theorem dX9_start_34 : decode cX9_start 34 = .ok (.ireturn, 1) := by decide +kernel
theorem dX9_hangUp_0 : decode cX9_hangUp 0 = .ok (.aload_n 0, 1) := by decide +kernel
theorem dX9_hangUp_1 : decode cX9_hangUp 1 = .ok (.getfield 62, 3) := by decide +kernel
theorem dX9_hangUp_4 : decode cX9_hangUp 4 = .ok (.iload_n 1, 1) := by decide +kernel
theorem dX9_hangUp_5 : decode cX9_hangUp 5 = .ok (.iconst 4, 1) := by decide +kernel
theorem dX9_hangUp_6 : decode cX9_hangUp 6 = .ok (.iastore, 1) := by decide +kernel
theorem dX9_hangUp_7 : decode cX9_hangUp 7 = .ok (.aload_n 0, 1) := by decide +kernel
theorem dX9_hangUp_8 : decode cX9_hangUp 8 = .ok (.getfield 74, 3) := by decide +kernel
theorem dX9_hangUp_11 : decode cX9_hangUp 11 = .ok (.iload_n 1, 1) := by decide +kernel
theorem dX9_hangUp_12 : decode cX9_hangUp 12 = .ok (.aload_n 0, 1) := by decide +kernel
theorem dX9_hangUp_13 : decode cX9_hangUp 13 = .ok (.getfield 119, 3) := by decide +kernel
theorem dX9_hangUp_16 : decode cX9_hangUp 16 = .ok (.iastore, 1) := by decide +kernel
theorem dX9_hangUp_17 : decode cX9_hangUp 17 = .ok (.return_, 1) := by decide +kernel
theorem dX9_hang_0 : decode cX9_hang 0 = .ok (.aload_n 0, 1) := by decide +kernel
theorem dX9_hang_1 : decode cX9_hang 1 = .ok (.iload_n 1, 1) := by decide +kernel
theorem dX9_hang_2 : decode cX9_hang 2 = .ok (.invokevirtual 262, 3) := by decide +kernel
theorem dX9_hang_5 : decode cX9_hang 5 = .ok (.ifCond .ne 5, 3) := by decide +kernel
theorem dX9_hang_8 : decode cX9_hang 8 = .ok (.iconst (-1), 1) := by decide +kernel
theorem dX9_hang_9 : decode cX9_hang 9 = .ok (.ireturn, 1) := by decide +kernel
theorem dX9_hang_10 : decode cX9_hang 10 = .ok (.aload_n 0, 1) := by decide +kernel
theorem dX9_hang_11 : decode cX9_hang 11 = .ok (.iload_n 1, 1) := by decide +kernel
theorem dX9_hang_12 : decode cX9_hang 12 = .ok (.iconst 3, 1) := by decide +kernel
theorem dX9_hang_13 : decode cX9_hang 13 = .ok (.invokevirtual 300, 3) := by decide +kernel
theorem dX9_hang_16 : decode cX9_hang 16 = .ok (.istore_n 2, 1) := by decide +kernel
theorem dX9_hang_17 : decode cX9_hang 17 = .ok (.iload_n 2, 1) := by decide +kernel
theorem dX9_hang_18 : decode cX9_hang 18 = .ok (.ifCond .le 8, 3) := by decide +kernel
theorem dX9_hang_21 : decode cX9_hang 21 = .ok (.bipush (-10), 2) := by decide +kernel
theorem dX9_hang_23 : decode cX9_hang 23 = .ok (.iload_n 2, 1) := by decide +kernel
theorem dX9_hang_24 : decode cX9_hang 24 = .ok (.isub, 1) := by decide +kernel
theorem dX9_hang_25 : decode cX9_hang 25 = .ok (.ireturn, 1) := by decide +kernel
theorem dX9_hang_26 : decode cX9_hang 26 = .ok (.aload_n 0, 1) := by decide +kernel
theorem dX9_hang_27 : decode cX9_hang 27 = .ok (.iload_n 1, 1) := by decide +kernel
theorem dX9_hang_28 : decode cX9_hang 28 = .ok (.invokevirtual 306, 3) := by decide +kernel
theorem dX9_hang_31 : decode cX9_hang 31 = .ok (.iconst 1, 1) := by decide +kernel
theorem dX9_hang_32 : decode cX9_hang 32 = .ok (.ireturn, 1) := by decide +kernel
theorem dX9_back_0 : decode cX9_back 0 = .ok (.aload_n 0, 1) := by decide +kernel
theorem dX9_back_1 : decode cX9_back 1 = .ok (.iload_n 1, 1) := by decide +kernel
theorem dX9_back_2 : decode cX9_back 2 = .ok (.invokevirtual 262, 3) := by decide +kernel
theorem dX9_back_5 : decode cX9_back 5 = .ok (.ifCond .ne 5, 3) := by decide +kernel
theorem dX9_back_8 : decode cX9_back 8 = .ok (.iconst (-1), 1) := by decide +kernel
theorem dX9_back_9 : decode cX9_back 9 = .ok (.ireturn, 1) := by decide +kernel
theorem dX9_back_10 : decode cX9_back 10 = .ok (.aload_n 0, 1) := by decide +kernel
theorem dX9_back_11 : decode cX9_back 11 = .ok (.iload_n 1, 1) := by decide +kernel
theorem dX9_back_12 : decode cX9_back 12 = .ok (.iconst 4, 1) := by decide +kernel
theorem dX9_back_13 : decode cX9_back 13 = .ok (.invokevirtual 300, 3) := by decide +kernel
theorem dX9_back_16 : decode cX9_back 16 = .ok (.istore_n 2, 1) := by decide +kernel
theorem dX9_back_17 : decode cX9_back 17 = .ok (.iload_n 2, 1) := by decide +kernel
theorem dX9_back_18 : decode cX9_back 18 = .ok (.ifCond .le 8, 3) := by decide +kernel
theorem dX9_back_21 : decode cX9_back 21 = .ok (.bipush (-10), 2) := by decide +kernel
theorem dX9_back_23 : decode cX9_back 23 = .ok (.iload_n 2, 1) := by decide +kernel
theorem dX9_back_24 : decode cX9_back 24 = .ok (.isub, 1) := by decide +kernel
theorem dX9_back_25 : decode cX9_back 25 = .ok (.ireturn, 1) := by decide +kernel
theorem dX9_back_26 : decode cX9_back 26 = .ok (.aload_n 0, 1) := by decide +kernel
theorem dX9_back_27 : decode cX9_back 27 = .ok (.invokevirtual 133, 3) := by decide +kernel
theorem dX9_back_30 : decode cX9_back 30 = .ok (.istore_n 3, 1) := by decide +kernel
theorem dX9_back_31 : decode cX9_back 31 = .ok (.aload_n 0, 1) := by decide +kernel
theorem dX9_back_32 : decode cX9_back 32 = .ok (.getfield 62, 3) := by decide +kernel
theorem dX9_back_35 : decode cX9_back 35 = .ok (.iload_n 1, 1) := by decide +kernel
theorem dX9_back_36 : decode cX9_back 36 = .ok (.iconst 5, 1) := by decide +kernel
theorem dX9_back_37 : decode cX9_back 37 = .ok (.iastore, 1) := by decide +kernel
theorem dX9_back_38 : decode cX9_back 38 = .ok (.iload_n 3, 1) := by decide +kernel
theorem dX9_back_39 : decode cX9_back 39 = .ok (.invokestatic 303, 3) := by decide +kernel
theorem dX9_back_42 : decode cX9_back 42 = .ok (.aload_n 0, 1) := by decide +kernel
theorem dX9_back_43 : decode cX9_back 43 = .ok (.invokevirtual 133, 3) := by decide +kernel
theorem dX9_back_46 : decode cX9_back 46 = .ok (.invokestatic 303, 3) := by decide +kernel
theorem dX9_back_49 : decode cX9_back 49 = .ok (.isub, 1) := by decide +kernel
theorem dX9_back_50 : decode cX9_back 50 = .ok (.ireturn, 1) := by decide +kernel
theorem dX9_may_0 : decode cX9_may 0 = .ok (.aload_n 0, 1) := by decide +kernel
theorem dX9_may_1 : decode cX9_may 1 = .ok (.iload_n 1, 1) := by decide +kernel
theorem dX9_may_2 : decode cX9_may 2 = .ok (.invokevirtual 262, 3) := by decide +kernel
theorem dX9_may_5 : decode cX9_may 5 = .ok (.ifCond .eq 21, 3) := by decide +kernel
theorem dX9_may_8 : decode cX9_may 8 = .ok (.iload_n 2, 1) := by decide +kernel
theorem dX9_may_9 : decode cX9_may 9 = .ok (.iconst 0, 1) := by decide +kernel
theorem dX9_may_10 : decode cX9_may 10 = .ok (.iconst 5, 1) := by decide +kernel
theorem dX9_may_11 : decode cX9_may 11 = .ok (.invokestatic 105, 3) := by decide +kernel
theorem dX9_may_14 : decode cX9_may 14 = .ok (.ifCond .eq 12, 3) := by decide +kernel
theorem dX9_may_17 : decode cX9_may 17 = .ok (.aload_n 0, 1) := by decide +kernel
theorem dX9_may_18 : decode cX9_may 18 = .ok (.iload_n 1, 1) := by decide +kernel
theorem dX9_may_19 : decode cX9_may 19 = .ok (.iload_n 2, 1) := by decide +kernel
theorem dX9_may_20 : decode cX9_may 20 = .ok (.invokevirtual 300, 3) := by decide +kernel
theorem dX9_may_23 : decode cX9_may 23 = .ok (.goto 4, 3) := by decide +kernel
theorem dX9_may_26 : decode cX9_may 26 = .ok (.iconst (-1), 1) := by decide +kernel
theorem dX9_may_27 : decode cX9_may 27 = .ok (.ireturn, 1) := by decide +kernel
theorem dX9_quarrels_0 : decode cX9_quarrels 0 = .ok (.aload_n 0, 1) := by decide +kernel
theorem dX9_quarrels_1 : decode cX9_quarrels 1 = .ok (.iload_n 1, 1) := by decide +kernel
theorem dX9_quarrels_2 : decode cX9_quarrels 2 = .ok (.invokevirtual 262, 3) := by decide +kernel
theorem dX9_quarrels_5 : decode cX9_quarrels 5 = .ok (.ifCond .eq 11, 3) := by decide +kernel
theorem dX9_quarrels_8 : decode cX9_quarrels 8 = .ok (.aload_n 0, 1) := by decide +kernel
theorem dX9_quarrels_9 : decode cX9_quarrels 9 = .ok (.iload_n 1, 1) := by decide +kernel
theorem dX9_quarrels_10 : decode cX9_quarrels 10 = .ok (.invokevirtual 282, 3) := by decide +kernel
theorem dX9_quarrels_13 : decode cX9_quarrels 13 = .ok (.goto 4, 3) := by decide +kernel
theorem dX9_quarrels_16 : decode cX9_quarrels 16 = .ok (.iconst (-1), 1) := by decide +kernel
theorem dX9_quarrels_17 : decode cX9_quarrels 17 = .ok (.ireturn, 1) := by decide +kernel
theorem dX9_permitOf_0 : decode cX9_permitOf 0 = .ok (.aload_n 0, 1) := by decide +kernel
theorem dX9_permitOf_1 : decode cX9_permitOf 1 = .ok (.iload_n 1, 1) := by decide +kernel
theorem dX9_permitOf_2 : decode cX9_permitOf 2 = .ok (.invokevirtual 262, 3) := by decide +kernel
theorem dX9_permitOf_5 : decode cX9_permitOf 5 = .ok (.ifCond .eq 13, 3) := by decide +kernel
theorem dX9_permitOf_8 : decode cX9_permitOf 8 = .ok (.iload_n 2, 1) := by decide +kernel
theorem dX9_permitOf_9 : decode cX9_permitOf 9 = .ok (.iconst 0, 1) := by decide +kernel
theorem dX9_permitOf_10 : decode cX9_permitOf 10 = .ok (.bipush 8, 2) := by decide +kernel
theorem dX9_permitOf_12 : decode cX9_permitOf 12 = .ok (.invokestatic 105, 3) := by decide +kernel
theorem dX9_permitOf_15 : decode cX9_permitOf 15 = .ok (.ifCond .ne 5, 3) := by decide +kernel
theorem dX9_permitOf_18 : decode cX9_permitOf 18 = .ok (.iconst (-1), 1) := by decide +kernel
theorem dX9_permitOf_19 : decode cX9_permitOf 19 = .ok (.ireturn, 1) := by decide +kernel
theorem dX9_permitOf_20 : decode cX9_permitOf 20 = .ok (.iload_n 2, 1) := by decide +kernel
theorem dX9_permitOf_21 : decode cX9_permitOf 21 = .ok (.tableswitch 116 0 7 #[47, 54, 61, 68, 75, 96, 102, 109], 47) := by decide +kernel
theorem dX9_permitOf_68 : decode cX9_permitOf 68 = .ok (.aload_n 0, 1) := by decide +kernel
theorem dX9_permitOf_69 : decode cX9_permitOf 69 = .ok (.getfield 53, 3) := by decide +kernel
theorem dX9_permitOf_72 : decode cX9_permitOf 72 = .ok (.iload_n 1, 1) := by decide +kernel
theorem dX9_permitOf_73 : decode cX9_permitOf 73 = .ok (.iaload, 1) := by decide +kernel
theorem dX9_permitOf_74 : decode cX9_permitOf 74 = .ok (.ireturn, 1) := by decide +kernel
theorem dX9_permitOf_75 : decode cX9_permitOf 75 = .ok (.aload_n 0, 1) := by decide +kernel
theorem dX9_permitOf_76 : decode cX9_permitOf 76 = .ok (.getfield 56, 3) := by decide +kernel
theorem dX9_permitOf_79 : decode cX9_permitOf 79 = .ok (.iload_n 1, 1) := by decide +kernel
theorem dX9_permitOf_80 : decode cX9_permitOf 80 = .ok (.iaload, 1) := by decide +kernel
theorem dX9_permitOf_81 : decode cX9_permitOf 81 = .ok (.ireturn, 1) := by decide +kernel
theorem dX9_permitOf_82 : decode cX9_permitOf 82 = .ok (.aload_n 0, 1) := by decide +kernel
theorem dX9_permitOf_83 : decode cX9_permitOf 83 = .ok (.getfield 59, 3) := by decide +kernel
theorem dX9_permitOf_86 : decode cX9_permitOf 86 = .ok (.iload_n 1, 1) := by decide +kernel
theorem dX9_permitOf_87 : decode cX9_permitOf 87 = .ok (.iaload, 1) := by decide +kernel
theorem dX9_permitOf_88 : decode cX9_permitOf 88 = .ok (.ireturn, 1) := by decide +kernel
theorem dX9_permitOf_89 : decode cX9_permitOf 89 = .ok (.aload_n 0, 1) := by decide +kernel
theorem dX9_permitOf_90 : decode cX9_permitOf 90 = .ok (.getfield 62, 3) := by decide +kernel
theorem dX9_permitOf_93 : decode cX9_permitOf 93 = .ok (.iload_n 1, 1) := by decide +kernel
theorem dX9_permitOf_94 : decode cX9_permitOf 94 = .ok (.iaload, 1) := by decide +kernel
theorem dX9_permitOf_95 : decode cX9_permitOf 95 = .ok (.ireturn, 1) := by decide +kernel
theorem dX9_permitOf_96 : decode cX9_permitOf 96 = .ok (.aload_n 0, 1) := by decide +kernel
theorem dX9_permitOf_97 : decode cX9_permitOf 97 = .ok (.getfield 65, 3) := by decide +kernel
theorem dX9_permitOf_100 : decode cX9_permitOf 100 = .ok (.iload_n 1, 1) := by decide +kernel
theorem dX9_permitOf_101 : decode cX9_permitOf 101 = .ok (.iaload, 1) := by decide +kernel
theorem dX9_permitOf_102 : decode cX9_permitOf 102 = .ok (.ifCond .ge 8, 3) := by decide +kernel
theorem dX9_permitOf_105 : decode cX9_permitOf 105 = .ok (.bipush (-3), 2) := by decide +kernel
theorem dX9_permitOf_107 : decode cX9_permitOf 107 = .ok (.goto 9, 3) := by decide +kernel
theorem dX9_permitOf_110 : decode cX9_permitOf 110 = .ok (.aload_n 0, 1) := by decide +kernel
theorem dX9_permitOf_111 : decode cX9_permitOf 111 = .ok (.getfield 65, 3) := by decide +kernel
theorem dX9_permitOf_114 : decode cX9_permitOf 114 = .ok (.iload_n 1, 1) := by decide +kernel
theorem dX9_permitOf_115 : decode cX9_permitOf 115 = .ok (.iaload, 1) := by decide +kernel
theorem dX9_permitOf_116 : decode cX9_permitOf 116 = .ok (.ireturn, 1) := by decide +kernel
theorem dX9_permitOf_117 : decode cX9_permitOf 117 = .ok (.aload_n 0, 1) := by decide +kernel
theorem dX9_permitOf_118 : decode cX9_permitOf 118 = .ok (.iload_n 1, 1) := by decide +kernel
theorem dX9_permitOf_119 : decode cX9_permitOf 119 = .ok (.invokevirtual 273, 3) := by decide +kernel
theorem dX9_permitOf_122 : decode cX9_permitOf 122 = .ok (.ireturn, 1) := by decide +kernel
theorem dX9_permitOf_123 : decode cX9_permitOf 123 = .ok (.aload_n 0, 1) := by decide +kernel
theorem dX9_permitOf_124 : decode cX9_permitOf 124 = .ok (.getfield 68, 3) := by decide +kernel
theorem dX9_permitOf_127 : decode cX9_permitOf 127 = .ok (.iload_n 1, 1) := by decide +kernel
theorem dX9_permitOf_128 : decode cX9_permitOf 128 = .ok (.iaload, 1) := by decide +kernel
theorem dX9_permitOf_129 : decode cX9_permitOf 129 = .ok (.ireturn, 1) := by decide +kernel
theorem dX9_permitOf_130 : decode cX9_permitOf 130 = .ok (.aload_n 0, 1) := by decide +kernel
theorem dX9_permitOf_131 : decode cX9_permitOf 131 = .ok (.getfield 71, 3) := by decide +kernel
theorem dX9_permitOf_134 : decode cX9_permitOf 134 = .ok (.iload_n 1, 1) := by decide +kernel
theorem dX9_permitOf_135 : decode cX9_permitOf 135 = .ok (.iaload, 1) := by decide +kernel
theorem dX9_permitOf_136 : decode cX9_permitOf 136 = .ok (.ireturn, 1) := by decide +kernel
theorem dX9_permitOf_137 : decode cX9_permitOf 137 = .ok (.aload_n 0, 1) := by decide +kernel
theorem dX9_permitOf_138 : decode cX9_permitOf 138 = .ok (.getfield 62, 3) := by decide +kernel
theorem dX9_permitOf_141 : decode cX9_permitOf 141 = .ok (.iload_n 1, 1) := by decide +kernel
theorem dX9_permitOf_142 : decode cX9_permitOf 142 = .ok (.iaload, 1) := by decide +kernel
theorem dX9_permitOf_143 : decode cX9_permitOf 143 = .ok (.iconst 3, 1) := by decide +kernel
theorem dX9_permitOf_144 : decode cX9_permitOf 144 = .ok (.if_icmp .ne 10, 3) := by decide +kernel
theorem dX9_permitOf_147 : decode cX9_permitOf 147 = .ok (.aload_n 0, 1) := by decide +kernel
theorem dX9_permitOf_148 : decode cX9_permitOf 148 = .ok (.getfield 119, 3) := by decide +kernel
theorem dX9_permitOf_151 : decode cX9_permitOf 151 = .ok (.goto 9, 3) := by decide +kernel
theorem dX9_permitOf_154 : decode cX9_permitOf 154 = .ok (.aload_n 0, 1) := by decide +kernel
theorem dX9_permitOf_155 : decode cX9_permitOf 155 = .ok (.getfield 74, 3) := by decide +kernel
theorem dX9_permitOf_158 : decode cX9_permitOf 158 = .ok (.iload_n 1, 1) := by decide +kernel
theorem dX9_permitOf_159 : decode cX9_permitOf 159 = .ok (.iaload, 1) := by decide +kernel
theorem dX9_permitOf_160 : decode cX9_permitOf 160 = .ok (.ireturn, 1) := by decide +kernel
theorem dX9_enter_0 : decode cX9_enter 0 = .ok (.iload_n 1, 1) := by decide +kernel
theorem dX9_enter_1 : decode cX9_enter 1 = .ok (.invokestatic 265, 3) := by decide +kernel
theorem dX9_enter_4 : decode cX9_enter 4 = .ok (.ifCond .eq 11, 3) := by decide +kernel
theorem dX9_enter_7 : decode cX9_enter 7 = .ok (.aload_n 0, 1) := by decide +kernel
theorem dX9_enter_8 : decode cX9_enter 8 = .ok (.iload_n 2, 1) := by decide +kernel
theorem dX9_enter_9 : decode cX9_enter 9 = .ok (.invokevirtual 262, 3) := by decide +kernel
theorem dX9_enter_12 : decode cX9_enter 12 = .ok (.ifCond .ne 5, 3) := by decide +kernel
theorem dX9_enter_15 : decode cX9_enter 15 = .ok (.iconst (-1), 1) := by decide +kernel
theorem dX9_enter_16 : decode cX9_enter 16 = .ok (.ireturn, 1) := by decide +kernel
theorem dX9_enter_17 : decode cX9_enter 17 = .ok (.aload_n 0, 1) := by decide +kernel
theorem dX9_enter_18 : decode cX9_enter 18 = .ok (.getfield 47, 3) := by decide +kernel
theorem dX9_enter_21 : decode cX9_enter 21 = .ok (.iload_n 1, 1) := by decide +kernel
theorem dX9_enter_22 : decode cX9_enter 22 = .ok (.baload, 1) := by decide +kernel
theorem dX9_enter_23 : decode cX9_enter 23 = .ok (.ifCond .ne 12, 3) := by decide +kernel
theorem dX9_enter_26 : decode cX9_enter 26 = .ok (.aload_n 0, 1) := by decide +kernel
theorem dX9_enter_27 : decode cX9_enter 27 = .ok (.getfield 50, 3) := by decide +kernel
theorem dX9_enter_30 : decode cX9_enter 30 = .ok (.iload_n 1, 1) := by decide +kernel
theorem dX9_enter_31 : decode cX9_enter 31 = .ok (.iaload, 1) := by decide +kernel
theorem dX9_enter_32 : decode cX9_enter 32 = .ok (.ifCond .lt 6, 3) := by decide +kernel
theorem dX9_enter_35 : decode cX9_enter 35 = .ok (.bipush (-4), 2) := by decide +kernel
theorem dX9_enter_37 : decode cX9_enter 37 = .ok (.ireturn, 1) := by decide +kernel
theorem dX9_enter_38 : decode cX9_enter 38 = .ok (.aload_n 0, 1) := by decide +kernel
theorem dX9_enter_39 : decode cX9_enter 39 = .ok (.iload_n 2, 1) := by decide +kernel
theorem dX9_enter_40 : decode cX9_enter 40 = .ok (.iconst 5, 1) := by decide +kernel
theorem dX9_enter_41 : decode cX9_enter 41 = .ok (.invokevirtual 300, 3) := by decide +kernel
theorem dX9_enter_44 : decode cX9_enter 44 = .ok (.istore_n 3, 1) := by decide +kernel
theorem dX9_enter_45 : decode cX9_enter 45 = .ok (.iload_n 3, 1) := by decide +kernel
theorem dX9_enter_46 : decode cX9_enter 46 = .ok (.ifCond .le 8, 3) := by decide +kernel
theorem dX9_enter_49 : decode cX9_enter 49 = .ok (.bipush (-10), 2) := by decide +kernel
theorem dX9_enter_51 : decode cX9_enter 51 = .ok (.iload_n 3, 1) := by decide +kernel
theorem dX9_enter_52 : decode cX9_enter 52 = .ok (.isub, 1) := by decide +kernel
theorem dX9_enter_53 : decode cX9_enter 53 = .ok (.ireturn, 1) := by decide +kernel
theorem dX9_enter_54 : decode cX9_enter 54 = .ok (.aload_n 0, 1) := by decide +kernel
theorem dX9_enter_55 : decode cX9_enter 55 = .ok (.getfield 50, 3) := by decide +kernel
theorem dX9_enter_58 : decode cX9_enter 58 = .ok (.iload_n 1, 1) := by decide +kernel
theorem dX9_enter_59 : decode cX9_enter 59 = .ok (.iload_n 2, 1) := by decide +kernel
theorem dX9_enter_60 : decode cX9_enter 60 = .ok (.iastore, 1) := by decide +kernel
theorem dX9_enter_61 : decode cX9_enter 61 = .ok (.aload_n 0, 1) := by decide +kernel
theorem dX9_enter_62 : decode cX9_enter 62 = .ok (.iload_n 2, 1) := by decide +kernel
theorem dX9_enter_63 : decode cX9_enter 63 = .ok (.invokevirtual 273, 3) := by decide +kernel
theorem dX9_enter_66 : decode cX9_enter 66 = .ok (.ireturn, 1) := by decide +kernel
theorem dX9_leave_0 : decode cX9_leave 0 = .ok (.iload_n 1, 1) := by decide +kernel
theorem dX9_leave_1 : decode cX9_leave 1 = .ok (.invokestatic 265, 3) := by decide +kernel
theorem dX9_leave_4 : decode cX9_leave 4 = .ok (.ifCond .ne 5, 3) := by decide +kernel
theorem dX9_leave_7 : decode cX9_leave 7 = .ok (.iconst (-1), 1) := by decide +kernel
theorem dX9_leave_8 : decode cX9_leave 8 = .ok (.ireturn, 1) := by decide +kernel
theorem dX9_leave_9 : decode cX9_leave 9 = .ok (.aload_n 0, 1) := by decide +kernel
theorem dX9_leave_10 : decode cX9_leave 10 = .ok (.getfield 50, 3) := by decide +kernel
theorem dX9_leave_13 : decode cX9_leave 13 = .ok (.iload_n 1, 1) := by decide +kernel
theorem dX9_leave_14 : decode cX9_leave 14 = .ok (.iaload, 1) := by decide +kernel
theorem dX9_leave_15 : decode cX9_leave 15 = .ok (.ifCond .ge 6, 3) := by decide +kernel
theorem dX9_leave_18 : decode cX9_leave 18 = .ok (.bipush (-4), 2) := by decide +kernel
theorem dX9_leave_20 : decode cX9_leave 20 = .ok (.ireturn, 1) := by decide +kernel
theorem dX9_leave_21 : decode cX9_leave 21 = .ok (.aload_n 0, 1) := by decide +kernel
theorem dX9_leave_22 : decode cX9_leave 22 = .ok (.getfield 50, 3) := by decide +kernel
theorem dX9_leave_25 : decode cX9_leave 25 = .ok (.iload_n 1, 1) := by decide +kernel
theorem dX9_leave_26 : decode cX9_leave 26 = .ok (.iaload, 1) := by decide +kernel
theorem dX9_leave_27 : decode cX9_leave 27 = .ok (.istore_n 2, 1) := by decide +kernel
theorem dX9_leave_28 : decode cX9_leave 28 = .ok (.aload_n 0, 1) := by decide +kernel
theorem dX9_leave_29 : decode cX9_leave 29 = .ok (.getfield 50, 3) := by decide +kernel
theorem dX9_leave_32 : decode cX9_leave 32 = .ok (.iload_n 1, 1) := by decide +kernel
theorem dX9_leave_33 : decode cX9_leave 33 = .ok (.iconst (-1), 1) := by decide +kernel
theorem dX9_leave_34 : decode cX9_leave 34 = .ok (.iastore, 1) := by decide +kernel
theorem dX9_leave_35 : decode cX9_leave 35 = .ok (.iload_n 2, 1) := by decide +kernel
theorem dX9_leave_36 : decode cX9_leave 36 = .ok (.ireturn, 1) := by decide +kernel
theorem dX9_holdsLive_0 : decode cX9_holdsLive 0 = .ok (.iconst 0, 1) := by decide +kernel
theorem dX9_holdsLive_1 : decode cX9_holdsLive 1 = .ok (.istore_n 2, 1) := by decide +kernel
theorem dX9_holdsLive_2 : decode cX9_holdsLive 2 = .ok (.iconst 0, 1) := by decide +kernel
theorem dX9_holdsLive_3 : decode cX9_holdsLive 3 = .ok (.istore_n 3, 1) := by decide +kernel
theorem dX9_holdsLive_4 : decode cX9_holdsLive 4 = .ok (.iload_n 3, 1) := by decide +kernel
theorem dX9_holdsLive_5 : decode cX9_holdsLive 5 = .ok (.aload_n 0, 1) := by decide +kernel
theorem dX9_holdsLive_6 : decode cX9_holdsLive 6 = .ok (.getfield 113, 3) := by decide +kernel
theorem dX9_holdsLive_9 : decode cX9_holdsLive 9 = .ok (.if_icmp .ge 39, 3) := by decide +kernel
theorem dX9_holdsLive_12 : decode cX9_holdsLive 12 = .ok (.iload_n 2, 1) := by decide +kernel
theorem dX9_holdsLive_13 : decode cX9_holdsLive 13 = .ok (.ifCond .ne 23, 3) := by decide +kernel
theorem dX9_holdsLive_16 : decode cX9_holdsLive 16 = .ok (.aload_n 0, 1) := by decide +kernel
theorem dX9_holdsLive_17 : decode cX9_holdsLive 17 = .ok (.getfield 62, 3) := by decide +kernel
theorem dX9_holdsLive_20 : decode cX9_holdsLive 20 = .ok (.iload_n 3, 1) := by decide +kernel
theorem dX9_holdsLive_21 : decode cX9_holdsLive 21 = .ok (.iaload, 1) := by decide +kernel
theorem dX9_holdsLive_22 : decode cX9_holdsLive 22 = .ok (.iconst 3, 1) := by decide +kernel
theorem dX9_holdsLive_23 : decode cX9_holdsLive 23 = .ok (.if_icmp .ne 17, 3) := by decide +kernel
theorem dX9_holdsLive_26 : decode cX9_holdsLive 26 = .ok (.aload_n 0, 1) := by decide +kernel
theorem dX9_holdsLive_27 : decode cX9_holdsLive 27 = .ok (.getfield 65, 3) := by decide +kernel
theorem dX9_holdsLive_30 : decode cX9_holdsLive 30 = .ok (.iload_n 3, 1) := by decide +kernel
theorem dX9_holdsLive_31 : decode cX9_holdsLive 31 = .ok (.iaload, 1) := by decide +kernel
theorem dX9_holdsLive_32 : decode cX9_holdsLive 32 = .ok (.iload_n 1, 1) := by decide +kernel
theorem dX9_holdsLive_33 : decode cX9_holdsLive 33 = .ok (.if_icmp .ne 7, 3) := by decide +kernel
theorem dX9_holdsLive_36 : decode cX9_holdsLive 36 = .ok (.iconst 1, 1) := by decide +kernel
theorem dX9_holdsLive_37 : decode cX9_holdsLive 37 = .ok (.goto 4, 3) := by decide +kernel
theorem dX9_holdsLive_40 : decode cX9_holdsLive 40 = .ok (.iconst 0, 1) := by decide +kernel
theorem dX9_holdsLive_41 : decode cX9_holdsLive 41 = .ok (.istore_n 2, 1) := by decide +kernel
theorem dX9_holdsLive_42 : decode cX9_holdsLive 42 = .ok (.iinc 3 1, 3) := by decide +kernel
theorem dX9_holdsLive_45 : decode cX9_holdsLive 45 = .ok (.goto (-41), 3) := by decide +kernel
theorem dX9_holdsLive_48 : decode cX9_holdsLive 48 = .ok (.iload_n 2, 1) := by decide +kernel
theorem dX9_holdsLive_49 : decode cX9_holdsLive 49 = .ok (.ireturn, 1) := by decide +kernel
theorem dX9_shift_0 : decode cX9_shift 0 = .ok (.iload_n 1, 1) := by decide +kernel
theorem dX9_shift_1 : decode cX9_shift 1 = .ok (.invokestatic 265, 3) := by decide +kernel
theorem dX9_shift_4 : decode cX9_shift 4 = .ok (.ifCond .ne 5, 3) := by decide +kernel
theorem dX9_shift_7 : decode cX9_shift 7 = .ok (.iconst (-1), 1) := by decide +kernel
theorem dX9_shift_8 : decode cX9_shift 8 = .ok (.ireturn, 1) := by decide +kernel
theorem dX9_shift_9 : decode cX9_shift 9 = .ok (.aload_n 0, 1) := by decide +kernel
theorem dX9_shift_10 : decode cX9_shift 10 = .ok (.getfield 47, 3) := by decide +kernel
theorem dX9_shift_13 : decode cX9_shift 13 = .ok (.iload_n 1, 1) := by decide +kernel
theorem dX9_shift_14 : decode cX9_shift 14 = .ok (.baload, 1) := by decide +kernel
theorem dX9_shift_15 : decode cX9_shift 15 = .ok (.iload_n 2, 1) := by decide +kernel
theorem dX9_shift_16 : decode cX9_shift 16 = .ok (.if_icmp .ne 24, 3) := by decide +kernel
theorem dX9_shift_19 : decode cX9_shift 19 = .ok (.iload_n 2, 1) := by decide +kernel
theorem dX9_shift_20 : decode cX9_shift 20 = .ok (.ifCond .ne 23, 3) := by decide +kernel
theorem dX9_shift_23 : decode cX9_shift 23 = .ok (.aload_n 0, 1) := by decide +kernel
theorem dX9_shift_24 : decode cX9_shift 24 = .ok (.getfield 50, 3) := by decide +kernel
theorem dX9_shift_27 : decode cX9_shift 27 = .ok (.iload_n 1, 1) := by decide +kernel
theorem dX9_shift_28 : decode cX9_shift 28 = .ok (.iaload, 1) := by decide +kernel
theorem dX9_shift_29 : decode cX9_shift 29 = .ok (.ifCond .ge 11, 3) := by decide +kernel
theorem dX9_shift_32 : decode cX9_shift 32 = .ok (.aload_n 0, 1) := by decide +kernel
theorem dX9_shift_33 : decode cX9_shift 33 = .ok (.iload_n 1, 1) := by decide +kernel
theorem dX9_shift_34 : decode cX9_shift 34 = .ok (.invokevirtual 310, 3) := by decide +kernel
theorem dX9_shift_37 : decode cX9_shift 37 = .ok (.ifCond .eq 6, 3) := by decide +kernel
theorem dX9_shift_40 : decode cX9_shift 40 = .ok (.bipush (-4), 2) := by decide +kernel
theorem dX9_shift_42 : decode cX9_shift 42 = .ok (.ireturn, 1) := by decide +kernel
theorem dX9_shift_43 : decode cX9_shift 43 = .ok (.aload_n 0, 1) := by decide +kernel
theorem dX9_shift_44 : decode cX9_shift 44 = .ok (.getfield 47, 3) := by decide +kernel
theorem dX9_shift_47 : decode cX9_shift 47 = .ok (.iload_n 1, 1) := by decide +kernel
theorem dX9_shift_48 : decode cX9_shift 48 = .ok (.iload_n 2, 1) := by decide +kernel
theorem dX9_shift_49 : decode cX9_shift 49 = .ok (.ifCond .ne 7, 3) := by decide +kernel
theorem dX9_shift_52 : decode cX9_shift 52 = .ok (.iconst 1, 1) := by decide +kernel
theorem dX9_shift_53 : decode cX9_shift 53 = .ok (.goto 4, 3) := by decide +kernel
theorem dX9_shift_56 : decode cX9_shift 56 = .ok (.iconst 0, 1) := by decide +kernel
theorem dX9_shift_57 : decode cX9_shift 57 = .ok (.bastore, 1) := by decide +kernel
theorem dX9_shift_58 : decode cX9_shift 58 = .ok (.iconst 1, 1) := by decide +kernel
theorem dX9_shift_59 : decode cX9_shift 59 = .ok (.ireturn, 1) := by decide +kernel
theorem dX9_siren_0 : decode cX9_siren 0 = .ok (.iconst 0, 1) := by decide +kernel
theorem dX9_siren_1 : decode cX9_siren 1 = .ok (.istore_n 1, 1) := by decide +kernel
theorem dX9_siren_2 : decode cX9_siren 2 = .ok (.iconst 0, 1) := by decide +kernel
theorem dX9_siren_3 : decode cX9_siren 3 = .ok (.istore_n 2, 1) := by decide +kernel
theorem dX9_siren_4 : decode cX9_siren 4 = .ok (.iload_n 2, 1) := by decide +kernel
theorem dX9_siren_5 : decode cX9_siren 5 = .ok (.bipush 8, 2) := by decide +kernel
theorem dX9_siren_7 : decode cX9_siren 7 = .ok (.if_icmp .ge 33, 3) := by decide +kernel
theorem dX9_siren_10 : decode cX9_siren 10 = .ok (.iload_n 1, 1) := by decide +kernel
theorem dX9_siren_11 : decode cX9_siren 11 = .ok (.aload_n 0, 1) := by decide +kernel
theorem dX9_siren_12 : decode cX9_siren 12 = .ok (.getfield 50, 3) := by decide +kernel
theorem dX9_siren_15 : decode cX9_siren 15 = .ok (.iload_n 2, 1) := by decide +kernel
theorem dX9_siren_16 : decode cX9_siren 16 = .ok (.iaload, 1) := by decide +kernel
theorem dX9_siren_17 : decode cX9_siren 17 = .ok (.ifCond .lt 7, 3) := by decide +kernel
theorem dX9_siren_20 : decode cX9_siren 20 = .ok (.iconst 1, 1) := by decide +kernel
theorem dX9_siren_21 : decode cX9_siren 21 = .ok (.goto 4, 3) := by decide +kernel
theorem dX9_siren_24 : decode cX9_siren 24 = .ok (.iconst 0, 1) := by decide +kernel
theorem dX9_siren_25 : decode cX9_siren 25 = .ok (.iadd, 1) := by decide +kernel
theorem dX9_siren_26 : decode cX9_siren 26 = .ok (.istore_n 1, 1) := by decide +kernel
theorem dX9_siren_27 : decode cX9_siren 27 = .ok (.aload_n 0, 1) := by decide +kernel
theorem dX9_siren_28 : decode cX9_siren 28 = .ok (.getfield 50, 3) := by decide +kernel
theorem dX9_siren_31 : decode cX9_siren 31 = .ok (.iload_n 2, 1) := by decide +kernel
theorem dX9_siren_32 : decode cX9_siren 32 = .ok (.iconst (-1), 1) := by decide +kernel
theorem dX9_siren_33 : decode cX9_siren 33 = .ok (.iastore, 1) := by decide +kernel
theorem dX9_siren_34 : decode cX9_siren 34 = .ok (.iinc 2 1, 3) := by decide +kernel
theorem dX9_siren_37 : decode cX9_siren 37 = .ok (.goto (-33), 3) := by decide +kernel
theorem dX9_siren_40 : decode cX9_siren 40 = .ok (.iconst 0, 1) := by decide +kernel
theorem dX9_siren_41 : decode cX9_siren 41 = .ok (.istore_n 2, 1) := by decide +kernel
theorem dX9_siren_42 : decode cX9_siren 42 = .ok (.iload_n 2, 1) := by decide +kernel
theorem dX9_siren_43 : decode cX9_siren 43 = .ok (.aload_n 0, 1) := by decide +kernel
theorem dX9_siren_44 : decode cX9_siren 44 = .ok (.getfield 113, 3) := by decide +kernel
theorem dX9_siren_47 : decode cX9_siren 47 = .ok (.if_icmp .ge 24, 3) := by decide +kernel
theorem dX9_siren_50 : decode cX9_siren 50 = .ok (.aload_n 0, 1) := by decide +kernel
theorem dX9_siren_51 : decode cX9_siren 51 = .ok (.getfield 62, 3) := by decide +kernel
theorem dX9_siren_54 : decode cX9_siren 54 = .ok (.iload_n 2, 1) := by decide +kernel
theorem dX9_siren_55 : decode cX9_siren 55 = .ok (.iaload, 1) := by decide +kernel
theorem dX9_siren_56 : decode cX9_siren 56 = .ok (.iconst 3, 1) := by decide +kernel
theorem dX9_siren_57 : decode cX9_siren 57 = .ok (.if_icmp .ne 8, 3) := by decide +kernel
theorem dX9_siren_60 : decode cX9_siren 60 = .ok (.aload_n 0, 1) := by decide +kernel
theorem dX9_siren_61 : decode cX9_siren 61 = .ok (.iload_n 2, 1) := by decide +kernel
theorem dX9_siren_62 : decode cX9_siren 62 = .ok (.invokevirtual 306, 3) := by decide +kernel
theorem dX9_siren_65 : decode cX9_siren 65 = .ok (.iinc 2 1, 3) := by decide +kernel
theorem dX9_siren_68 : decode cX9_siren 68 = .ok (.goto (-26), 3) := by decide +kernel
theorem dX9_siren_71 : decode cX9_siren 71 = .ok (.iload_n 1, 1) := by decide +kernel
theorem dX9_siren_72 : decode cX9_siren 72 = .ok (.ireturn, 1) := by decide +kernel
theorem dX9_hoursOf_0 : decode cX9_hoursOf 0 = .ok (.iconst 0, 1) := by decide +kernel
theorem dX9_hoursOf_1 : decode cX9_hoursOf 1 = .ok (.istore_n 2, 1) := by decide +kernel
theorem dX9_hoursOf_2 : decode cX9_hoursOf 2 = .ok (.iconst 0, 1) := by decide +kernel
theorem dX9_hoursOf_3 : decode cX9_hoursOf 3 = .ok (.istore_n 3, 1) := by decide +kernel
theorem dX9_hoursOf_4 : decode cX9_hoursOf 4 = .ok (.iload_n 3, 1) := by decide +kernel
theorem dX9_hoursOf_5 : decode cX9_hoursOf 5 = .ok (.aload_n 0, 1) := by decide +kernel
theorem dX9_hoursOf_6 : decode cX9_hoursOf 6 = .ok (.getfield 101, 3) := by decide +kernel
theorem dX9_hoursOf_9 : decode cX9_hoursOf 9 = .ok (.if_icmp .ge 38, 3) := by decide +kernel
theorem dX9_hoursOf_12 : decode cX9_hoursOf 12 = .ok (.iload_n 2, 1) := by decide +kernel
theorem dX9_hoursOf_13 : decode cX9_hoursOf 13 = .ok (.iload_n 1, 1) := by decide +kernel
theorem dX9_hoursOf_14 : decode cX9_hoursOf 14 = .ok (.iload_n 3, 1) := by decide +kernel
theorem dX9_hoursOf_15 : decode cX9_hoursOf 15 = .ok (.invokestatic 125, 3) := by decide +kernel
theorem dX9_hoursOf_18 : decode cX9_hoursOf 18 = .ok (.ifCond .ne 7, 3) := by decide +kernel
theorem dX9_hoursOf_21 : decode cX9_hoursOf 21 = .ok (.iconst 0, 1) := by decide +kernel
theorem dX9_hoursOf_22 : decode cX9_hoursOf 22 = .ok (.goto 17, 3) := by decide +kernel
theorem dX9_hoursOf_25 : decode cX9_hoursOf 25 = .ok (.aload_n 0, 1) := by decide +kernel
theorem dX9_hoursOf_26 : decode cX9_hoursOf 26 = .ok (.getfield 16, 3) := by decide +kernel
theorem dX9_hoursOf_29 : decode cX9_hoursOf 29 = .ok (.iload_n 3, 1) := by decide +kernel
theorem dX9_hoursOf_30 : decode cX9_hoursOf 30 = .ok (.iaload, 1) := by decide +kernel
theorem dX9_hoursOf_31 : decode cX9_hoursOf 31 = .ok (.ifCond .ne 7, 3) := by decide +kernel
theorem dX9_hoursOf_34 : decode cX9_hoursOf 34 = .ok (.iconst 1, 1) := by decide +kernel
theorem dX9_hoursOf_35 : decode cX9_hoursOf 35 = .ok (.goto 4, 3) := by decide +kernel
theorem dX9_hoursOf_38 : decode cX9_hoursOf 38 = .ok (.iconst 3, 1) := by decide +kernel
theorem dX9_hoursOf_39 : decode cX9_hoursOf 39 = .ok (.iadd, 1) := by decide +kernel
theorem dX9_hoursOf_40 : decode cX9_hoursOf 40 = .ok (.istore_n 2, 1) := by decide +kernel
theorem dX9_hoursOf_41 : decode cX9_hoursOf 41 = .ok (.iinc 3 1, 3) := by decide +kernel
theorem dX9_hoursOf_44 : decode cX9_hoursOf 44 = .ok (.goto (-40), 3) := by decide +kernel
theorem dX9_hoursOf_47 : decode cX9_hoursOf 47 = .ok (.iload_n 2, 1) := by decide +kernel
theorem dX9_hoursOf_48 : decode cX9_hoursOf 48 = .ok (.ireturn, 1) := by decide +kernel
theorem dX9_areFittings_0 : decode cX9_areFittings 0 = .ok (.iconst 1, 1) := by decide +kernel
theorem dX9_areFittings_1 : decode cX9_areFittings 1 = .ok (.istore_n 2, 1) := by decide +kernel
theorem dX9_areFittings_2 : decode cX9_areFittings 2 = .ok (.iconst 0, 1) := by decide +kernel
theorem dX9_areFittings_3 : decode cX9_areFittings 3 = .ok (.istore_n 3, 1) := by decide +kernel
theorem dX9_areFittings_4 : decode cX9_areFittings 4 = .ok (.iload_n 3, 1) := by decide +kernel
theorem dX9_areFittings_5 : decode cX9_areFittings 5 = .ok (.aload_n 0, 1) := by decide +kernel
theorem dX9_areFittings_6 : decode cX9_areFittings 6 = .ok (.getfield 101, 3) := by decide +kernel
theorem dX9_areFittings_9 : decode cX9_areFittings 9 = .ok (.if_icmp .ge 37, 3) := by decide +kernel
theorem dX9_areFittings_12 : decode cX9_areFittings 12 = .ok (.iload_n 2, 1) := by decide +kernel
theorem dX9_areFittings_13 : decode cX9_areFittings 13 = .ok (.ifCond .eq 25, 3) := by decide +kernel
theorem dX9_areFittings_16 : decode cX9_areFittings 16 = .ok (.iload_n 1, 1) := by decide +kernel
theorem dX9_areFittings_17 : decode cX9_areFittings 17 = .ok (.iload_n 3, 1) := by decide +kernel
theorem dX9_areFittings_18 : decode cX9_areFittings 18 = .ok (.invokestatic 125, 3) := by decide +kernel
theorem dX9_areFittings_21 : decode cX9_areFittings 21 = .ok (.ifCond .eq 13, 3) := by decide +kernel
theorem dX9_areFittings_24 : decode cX9_areFittings 24 = .ok (.aload_n 0, 1) := by decide +kernel
theorem dX9_areFittings_25 : decode cX9_areFittings 25 = .ok (.getfield 16, 3) := by decide +kernel
theorem dX9_areFittings_28 : decode cX9_areFittings 28 = .ok (.iload_n 3, 1) := by decide +kernel
theorem dX9_areFittings_29 : decode cX9_areFittings 29 = .ok (.iaload, 1) := by decide +kernel
theorem dX9_areFittings_30 : decode cX9_areFittings 30 = .ok (.iconst 2, 1) := by decide +kernel
theorem dX9_areFittings_31 : decode cX9_areFittings 31 = .ok (.if_icmp .ge 7, 3) := by decide +kernel
theorem dX9_areFittings_34 : decode cX9_areFittings 34 = .ok (.iconst 1, 1) := by decide +kernel
theorem dX9_areFittings_35 : decode cX9_areFittings 35 = .ok (.goto 4, 3) := by decide +kernel
theorem dX9_areFittings_38 : decode cX9_areFittings 38 = .ok (.iconst 0, 1) := by decide +kernel
theorem dX9_areFittings_39 : decode cX9_areFittings 39 = .ok (.istore_n 2, 1) := by decide +kernel
theorem dX9_areFittings_40 : decode cX9_areFittings 40 = .ok (.iinc 3 1, 3) := by decide +kernel
theorem dX9_areFittings_43 : decode cX9_areFittings 43 = .ok (.goto (-39), 3) := by decide +kernel
theorem dX9_areFittings_46 : decode cX9_areFittings 46 = .ok (.iload_n 2, 1) := by decide +kernel
theorem dX9_areFittings_47 : decode cX9_areFittings 47 = .ok (.ireturn, 1) := by decide +kernel
theorem dX9_isAhead_0 : decode cX9_isAhead 0 = .ok (.iload_n 0, 1) := by decide +kernel
theorem dX9_isAhead_1 : decode cX9_isAhead 1 = .ok (.iload_n 1, 1) := by decide +kernel
theorem dX9_isAhead_2 : decode cX9_isAhead 2 = .ok (.ixor, 1) := by decide +kernel
theorem dX9_isAhead_3 : decode cX9_isAhead 3 = .ok (.istore_n 2, 1) := by decide +kernel
theorem dX9_isAhead_4 : decode cX9_isAhead 4 = .ok (.iload_n 2, 1) := by decide +kernel
theorem dX9_isAhead_5 : decode cX9_isAhead 5 = .ok (.iload_n 2, 1) := by decide +kernel
theorem dX9_isAhead_6 : decode cX9_isAhead 6 = .ok (.ineg, 1) := by decide +kernel
theorem dX9_isAhead_7 : decode cX9_isAhead 7 = .ok (.iand, 1) := by decide +kernel
theorem dX9_isAhead_8 : decode cX9_isAhead 8 = .ok (.iload_n 0, 1) := by decide +kernel
theorem dX9_isAhead_9 : decode cX9_isAhead 9 = .ok (.iand, 1) := by decide +kernel
theorem dX9_isAhead_10 : decode cX9_isAhead 10 = .ok (.ifCond .eq 7, 3) := by decide +kernel
theorem dX9_isAhead_13 : decode cX9_isAhead 13 = .ok (.iconst 1, 1) := by decide +kernel
theorem dX9_isAhead_14 : decode cX9_isAhead 14 = .ok (.goto 4, 3) := by decide +kernel
theorem dX9_isAhead_17 : decode cX9_isAhead 17 = .ok (.iconst 0, 1) := by decide +kernel
theorem dX9_isAhead_18 : decode cX9_isAhead 18 = .ok (.ireturn, 1) := by decide +kernel
theorem dX9_leastOf_0 : decode cX9_leastOf 0 = .ok (.iconst (-1), 1) := by decide +kernel
theorem dX9_leastOf_1 : decode cX9_leastOf 1 = .ok (.istore_n 2, 1) := by decide +kernel
theorem dX9_leastOf_2 : decode cX9_leastOf 2 = .ok (.iconst 0, 1) := by decide +kernel
theorem dX9_leastOf_3 : decode cX9_leastOf 3 = .ok (.istore_n 3, 1) := by decide +kernel
theorem dX9_leastOf_4 : decode cX9_leastOf 4 = .ok (.iload_n 3, 1) := by decide +kernel
theorem dX9_leastOf_5 : decode cX9_leastOf 5 = .ok (.iconst 1, 1) := by decide +kernel
theorem dX9_leastOf_6 : decode cX9_leastOf 6 = .ok (.aload_n 0, 1) := by decide +kernel
theorem dX9_leastOf_7 : decode cX9_leastOf 7 = .ok (.getfield 101, 3) := by decide +kernel
theorem dX9_leastOf_10 : decode cX9_leastOf 10 = .ok (.ishl, 1) := by decide +kernel
theorem dX9_leastOf_11 : decode cX9_leastOf 11 = .ok (.if_icmp .ge 113, 3) := by decide +kernel
theorem dX9_leastOf_14 : decode cX9_leastOf 14 = .ok (.aload_n 0, 1) := by decide +kernel
theorem dX9_leastOf_15 : decode cX9_leastOf 15 = .ok (.iload_n 3, 1) := by decide +kernel
theorem dX9_leastOf_16 : decode cX9_leastOf 16 = .ok (.invokevirtual 313, 3) := by decide +kernel
theorem dX9_leastOf_19 : decode cX9_leastOf 19 = .ok (.istore 4, 2) := by decide +kernel
theorem dX9_leastOf_21 : decode cX9_leastOf 21 = .ok (.iload_n 2, 1) := by decide +kernel
theorem dX9_leastOf_22 : decode cX9_leastOf 22 = .ok (.ifCond .lt 13, 3) := by decide +kernel
theorem dX9_leastOf_25 : decode cX9_leastOf 25 = .ok (.iload 4, 2) := by decide +kernel
theorem dX9_leastOf_27 : decode cX9_leastOf 27 = .ok (.aload_n 0, 1) := by decide +kernel
theorem dX9_leastOf_28 : decode cX9_leastOf 28 = .ok (.iload_n 2, 1) := by decide +kernel
theorem dX9_leastOf_29 : decode cX9_leastOf 29 = .ok (.invokevirtual 313, 3) := by decide +kernel
theorem dX9_leastOf_32 : decode cX9_leastOf 32 = .ok (.if_icmp .ge 7, 3) := by decide +kernel
theorem dX9_leastOf_35 : decode cX9_leastOf 35 = .ok (.iconst 1, 1) := by decide +kernel
theorem dX9_leastOf_36 : decode cX9_leastOf 36 = .ok (.goto 4, 3) := by decide +kernel
theorem dX9_leastOf_39 : decode cX9_leastOf 39 = .ok (.iconst 0, 1) := by decide +kernel
theorem dX9_leastOf_40 : decode cX9_leastOf 40 = .ok (.istore 5, 2) := by decide +kernel
theorem dX9_leastOf_42 : decode cX9_leastOf 42 = .ok (.iload 5, 2) := by decide +kernel
theorem dX9_leastOf_44 : decode cX9_leastOf 44 = .ok (.ifCond .ne 43, 3) := by decide +kernel
theorem dX9_leastOf_47 : decode cX9_leastOf 47 = .ok (.iload 4, 2) := by decide +kernel
theorem dX9_leastOf_49 : decode cX9_leastOf 49 = .ok (.aload_n 0, 1) := by decide +kernel
theorem dX9_leastOf_50 : decode cX9_leastOf 50 = .ok (.iload_n 2, 1) := by decide +kernel
theorem dX9_leastOf_51 : decode cX9_leastOf 51 = .ok (.invokevirtual 313, 3) := by decide +kernel
theorem dX9_leastOf_54 : decode cX9_leastOf 54 = .ok (.if_icmp .ne 37, 3) := by decide +kernel
theorem dX9_leastOf_57 : decode cX9_leastOf 57 = .ok (.iload_n 3, 1) := by decide +kernel
theorem dX9_leastOf_58 : decode cX9_leastOf 58 = .ok (.invokestatic 303, 3) := by decide +kernel
theorem dX9_leastOf_61 : decode cX9_leastOf 61 = .ok (.iload_n 2, 1) := by decide +kernel
theorem dX9_leastOf_62 : decode cX9_leastOf 62 = .ok (.invokestatic 303, 3) := by decide +kernel
theorem dX9_leastOf_65 : decode cX9_leastOf 65 = .ok (.if_icmp .lt 22, 3) := by decide +kernel
theorem dX9_leastOf_68 : decode cX9_leastOf 68 = .ok (.iload_n 3, 1) := by decide +kernel
theorem dX9_leastOf_69 : decode cX9_leastOf 69 = .ok (.invokestatic 303, 3) := by decide +kernel
theorem dX9_leastOf_72 : decode cX9_leastOf 72 = .ok (.iload_n 2, 1) := by decide +kernel
theorem dX9_leastOf_73 : decode cX9_leastOf 73 = .ok (.invokestatic 303, 3) := by decide +kernel
theorem dX9_leastOf_76 : decode cX9_leastOf 76 = .ok (.if_icmp .ne 15, 3) := by decide +kernel
theorem dX9_leastOf_79 : decode cX9_leastOf 79 = .ok (.iload_n 3, 1) := by decide +kernel
theorem dX9_leastOf_80 : decode cX9_leastOf 80 = .ok (.iload_n 2, 1) := by decide +kernel
theorem dX9_leastOf_81 : decode cX9_leastOf 81 = .ok (.invokestatic 316, 3) := by decide +kernel
theorem dX9_leastOf_84 : decode cX9_leastOf 84 = .ok (.ifCond .eq 7, 3) := by decide +kernel
theorem dX9_leastOf_87 : decode cX9_leastOf 87 = .ok (.iconst 1, 1) := by decide +kernel
theorem dX9_leastOf_88 : decode cX9_leastOf 88 = .ok (.goto 4, 3) := by decide +kernel
theorem dX9_leastOf_91 : decode cX9_leastOf 91 = .ok (.iconst 0, 1) := by decide +kernel
theorem dX9_leastOf_92 : decode cX9_leastOf 92 = .ok (.istore 5, 2) := by decide +kernel
theorem dX9_leastOf_94 : decode cX9_leastOf 94 = .ok (.iload 5, 2) := by decide +kernel
theorem dX9_leastOf_96 : decode cX9_leastOf 96 = .ok (.ifCond .eq 22, 3) := by decide +kernel
theorem dX9_leastOf_99 : decode cX9_leastOf 99 = .ok (.aload_n 0, 1) := by decide +kernel
theorem dX9_leastOf_100 : decode cX9_leastOf 100 = .ok (.iload_n 3, 1) := by decide +kernel
theorem dX9_leastOf_101 : decode cX9_leastOf 101 = .ok (.invokevirtual 319, 3) := by decide +kernel
theorem dX9_leastOf_104 : decode cX9_leastOf 104 = .ok (.ifCond .eq 14, 3) := by decide +kernel
theorem dX9_leastOf_107 : decode cX9_leastOf 107 = .ok (.aload_n 0, 1) := by decide +kernel
theorem dX9_leastOf_108 : decode cX9_leastOf 108 = .ok (.iload_n 1, 1) := by decide +kernel
theorem dX9_leastOf_109 : decode cX9_leastOf 109 = .ok (.iload_n 3, 1) := by decide +kernel
theorem dX9_leastOf_110 : decode cX9_leastOf 110 = .ok (.invokevirtual 158, 3) := by decide +kernel
theorem dX9_leastOf_113 : decode cX9_leastOf 113 = .ok (.ifCond .eq 5, 3) := by decide +kernel
theorem dX9_leastOf_116 : decode cX9_leastOf 116 = .ok (.iload_n 3, 1) := by decide +kernel
theorem dX9_leastOf_117 : decode cX9_leastOf 117 = .ok (.istore_n 2, 1) := by decide +kernel
theorem dX9_leastOf_118 : decode cX9_leastOf 118 = .ok (.iinc 3 1, 3) := by decide +kernel
theorem dX9_leastOf_121 : decode cX9_leastOf 121 = .ok (.goto (-117), 3) := by decide +kernel
theorem dX9_leastOf_124 : decode cX9_leastOf 124 = .ok (.iload_n 2, 1) := by decide +kernel
theorem dX9_leastOf_125 : decode cX9_leastOf 125 = .ok (.ireturn, 1) := by decide +kernel
theorem dX9_least_0 : decode cX9_least 0 = .ok (.iload_n 1, 1) := by decide +kernel
theorem dX9_least_1 : decode cX9_least 1 = .ok (.invokestatic 116, 3) := by decide +kernel
theorem dX9_least_4 : decode cX9_least 4 = .ok (.ifCond .ne 5, 3) := by decide +kernel
theorem dX9_least_7 : decode cX9_least 7 = .ok (.iconst (-1), 1) := by decide +kernel
theorem dX9_least_8 : decode cX9_least 8 = .ok (.ireturn, 1) := by decide +kernel
theorem dX9_least_9 : decode cX9_least 9 = .ok (.aload_n 0, 1) := by decide +kernel
theorem dX9_least_10 : decode cX9_least 10 = .ok (.iload_n 1, 1) := by decide +kernel
theorem dX9_least_11 : decode cX9_least 11 = .ok (.invokevirtual 322, 3) := by decide +kernel
theorem dX9_least_14 : decode cX9_least 14 = .ok (.istore_n 2, 1) := by decide +kernel
theorem dX9_least_15 : decode cX9_least 15 = .ok (.iload_n 2, 1) := by decide +kernel
theorem dX9_least_16 : decode cX9_least 16 = .ok (.ifCond .ge 8, 3) := by decide +kernel
theorem dX9_least_19 : decode cX9_least 19 = .ok (.bipush (-3), 2) := by decide +kernel
theorem dX9_least_21 : decode cX9_least 21 = .ok (.goto 8, 3) := by decide +kernel
theorem dX9_least_24 : decode cX9_least 24 = .ok (.aload_n 0, 1) := by decide +kernel
theorem dX9_least_25 : decode cX9_least 25 = .ok (.iload_n 2, 1) := by decide +kernel
theorem dX9_least_26 : decode cX9_least 26 = .ok (.invokevirtual 313, 3) := by decide +kernel
theorem dX9_least_29 : decode cX9_least 29 = .ok (.ireturn, 1) := by decide +kernel
theorem dX9_leastSet_0 : decode cX9_leastSet 0 = .ok (.iload_n 1, 1) := by decide +kernel
theorem dX9_leastSet_1 : decode cX9_leastSet 1 = .ok (.invokestatic 116, 3) := by decide +kernel
theorem dX9_leastSet_4 : decode cX9_leastSet 4 = .ok (.ifCond .ne 5, 3) := by decide +kernel
theorem dX9_leastSet_7 : decode cX9_leastSet 7 = .ok (.iconst (-1), 1) := by decide +kernel
theorem dX9_leastSet_8 : decode cX9_leastSet 8 = .ok (.ireturn, 1) := by decide +kernel
theorem dX9_leastSet_9 : decode cX9_leastSet 9 = .ok (.aload_n 0, 1) := by decide +kernel
theorem dX9_leastSet_10 : decode cX9_leastSet 10 = .ok (.iload_n 1, 1) := by decide +kernel
theorem dX9_leastSet_11 : decode cX9_leastSet 11 = .ok (.invokevirtual 322, 3) := by decide +kernel
theorem dX9_leastSet_14 : decode cX9_leastSet 14 = .ok (.istore_n 2, 1) := by decide +kernel
theorem dX9_leastSet_15 : decode cX9_leastSet 15 = .ok (.iload_n 2, 1) := by decide +kernel
theorem dX9_leastSet_16 : decode cX9_leastSet 16 = .ok (.ifCond .ge 8, 3) := by decide +kernel
theorem dX9_leastSet_19 : decode cX9_leastSet 19 = .ok (.bipush (-3), 2) := by decide +kernel
theorem dX9_leastSet_21 : decode cX9_leastSet 21 = .ok (.goto 4, 3) := by decide +kernel
theorem dX9_leastSet_24 : decode cX9_leastSet 24 = .ok (.iload_n 2, 1) := by decide +kernel
theorem dX9_leastSet_25 : decode cX9_leastSet 25 = .ok (.ireturn, 1) := by decide +kernel
theorem dX9_risk_0 : decode cX9_risk 0 = .ok (.aload_n 0, 1) := by decide +kernel
theorem dX9_risk_1 : decode cX9_risk 1 = .ok (.iload_n 1, 1) := by decide +kernel
theorem dX9_risk_2 : decode cX9_risk 2 = .ok (.invokevirtual 137, 3) := by decide +kernel
theorem dX9_risk_5 : decode cX9_risk 5 = .ok (.ifCond .ne 5, 3) := by decide +kernel
theorem dX9_risk_8 : decode cX9_risk 8 = .ok (.iconst (-1), 1) := by decide +kernel
theorem dX9_risk_9 : decode cX9_risk 9 = .ok (.ireturn, 1) := by decide +kernel
theorem dX9_risk_10 : decode cX9_risk 10 = .ok (.aload_n 0, 1) := by decide +kernel
theorem dX9_risk_11 : decode cX9_risk 11 = .ok (.invokevirtual 133, 3) := by decide +kernel
theorem dX9_risk_14 : decode cX9_risk 14 = .ok (.iconst 1, 1) := by decide +kernel
theorem dX9_risk_15 : decode cX9_risk 15 = .ok (.iload_n 1, 1) := by decide +kernel
theorem dX9_risk_16 : decode cX9_risk 16 = .ok (.ishl, 1) := by decide +kernel
theorem dX9_risk_17 : decode cX9_risk 17 = .ok (.iconst (-1), 1) := by decide +kernel
theorem dX9_risk_18 : decode cX9_risk 18 = .ok (.ixor, 1) := by decide +kernel
theorem dX9_risk_19 : decode cX9_risk 19 = .ok (.iand, 1) := by decide +kernel
theorem dX9_risk_20 : decode cX9_risk 20 = .ok (.istore_n 2, 1) := by decide +kernel
theorem dX9_risk_21 : decode cX9_risk 21 = .ok (.iconst 0, 1) := by decide +kernel
theorem dX9_risk_22 : decode cX9_risk 22 = .ok (.istore_n 3, 1) := by decide +kernel
theorem dX9_risk_23 : decode cX9_risk 23 = .ok (.iconst 0, 1) := by decide +kernel
theorem dX9_risk_24 : decode cX9_risk 24 = .ok (.istore 4, 2) := by decide +kernel
theorem dX9_risk_26 : decode cX9_risk 26 = .ok (.iload 4, 2) := by decide +kernel
theorem dX9_risk_28 : decode cX9_risk 28 = .ok (.aload_n 0, 1) := by decide +kernel
theorem dX9_risk_29 : decode cX9_risk 29 = .ok (.getfield 113, 3) := by decide +kernel
theorem dX9_risk_32 : decode cX9_risk 32 = .ok (.if_icmp .ge 46, 3) := by decide +kernel
theorem dX9_risk_35 : decode cX9_risk 35 = .ok (.iload_n 3, 1) := by decide +kernel
theorem dX9_risk_36 : decode cX9_risk 36 = .ok (.aload_n 0, 1) := by decide +kernel
theorem dX9_risk_37 : decode cX9_risk 37 = .ok (.getfield 62, 3) := by decide +kernel
theorem dX9_risk_40 : decode cX9_risk 40 = .ok (.iload 4, 2) := by decide +kernel
theorem dX9_risk_42 : decode cX9_risk 42 = .ok (.iaload, 1) := by decide +kernel
theorem dX9_risk_43 : decode cX9_risk 43 = .ok (.iconst 3, 1) := by decide +kernel
theorem dX9_risk_44 : decode cX9_risk 44 = .ok (.if_icmp .ne 25, 3) := by decide +kernel
theorem dX9_risk_47 : decode cX9_risk 47 = .ok (.aload_n 0, 1) := by decide +kernel
theorem dX9_risk_48 : decode cX9_risk 48 = .ok (.aload_n 0, 1) := by decide +kernel
theorem dX9_risk_49 : decode cX9_risk 49 = .ok (.getfield 53, 3) := by decide +kernel
theorem dX9_risk_52 : decode cX9_risk 52 = .ok (.iload 4, 2) := by decide +kernel
theorem dX9_risk_54 : decode cX9_risk 54 = .ok (.iaload, 1) := by decide +kernel
theorem dX9_risk_55 : decode cX9_risk 55 = .ok (.iload_n 2, 1) := by decide +kernel
theorem dX9_risk_56 : decode cX9_risk 56 = .ok (.invokevirtual 158, 3) := by decide +kernel
theorem dX9_risk_59 : decode cX9_risk 59 = .ok (.ifCond .ne 10, 3) := by decide +kernel
theorem dX9_risk_62 : decode cX9_risk 62 = .ok (.iconst 1, 1) := by decide +kernel
theorem dX9_risk_63 : decode cX9_risk 63 = .ok (.iload 4, 2) := by decide +kernel
theorem dX9_risk_65 : decode cX9_risk 65 = .ok (.ishl, 1) := by decide +kernel
theorem dX9_risk_66 : decode cX9_risk 66 = .ok (.goto 4, 3) := by decide +kernel
theorem dX9_risk_69 : decode cX9_risk 69 = .ok (.iconst 0, 1) := by decide +kernel
theorem dX9_risk_70 : decode cX9_risk 70 = .ok (.ior, 1) := by decide +kernel
theorem dX9_risk_71 : decode cX9_risk 71 = .ok (.istore_n 3, 1) := by decide +kernel
theorem dX9_risk_72 : decode cX9_risk 72 = .ok (.iinc 4 1, 3) := by decide +kernel
theorem dX9_risk_75 : decode cX9_risk 75 = .ok (.goto (-49), 3) := by decide +kernel
theorem dX9_risk_78 : decode cX9_risk 78 = .ok (.iload_n 3, 1) := by decide +kernel
theorem dX9_risk_79 : decode cX9_risk 79 = .ok (.ireturn, 1) := by decide +kernel
theorem dX9_right_0 : decode cX9_right 0 = .ok (.aload_n 0, 1) := by decide +kernel
theorem dX9_right_1 : decode cX9_right 1 = .ok (.iload_n 1, 1) := by decide +kernel
theorem dX9_right_2 : decode cX9_right 2 = .ok (.invokevirtual 262, 3) := by decide +kernel
theorem dX9_right_5 : decode cX9_right 5 = .ok (.ifCond .eq 27, 3) := by decide +kernel
theorem dX9_right_8 : decode cX9_right 8 = .ok (.iload_n 2, 1) := by decide +kernel
theorem dX9_right_9 : decode cX9_right 9 = .ok (.iconst 0, 1) := by decide +kernel
theorem dX9_right_10 : decode cX9_right 10 = .ok (.aload_n 0, 1) := by decide +kernel
theorem dX9_right_11 : decode cX9_right 11 = .ok (.getfield 119, 3) := by decide +kernel
theorem dX9_right_14 : decode cX9_right 14 = .ok (.invokestatic 105, 3) := by decide +kernel
theorem dX9_right_17 : decode cX9_right 17 = .ok (.ifCond .eq 15, 3) := by decide +kernel
theorem dX9_right_20 : decode cX9_right 20 = .ok (.iload_n 3, 1) := by decide +kernel
theorem dX9_right_21 : decode cX9_right 21 = .ok (.iconst 0, 1) := by decide +kernel
theorem dX9_right_22 : decode cX9_right 22 = .ok (.aload_n 0, 1) := by decide +kernel
theorem dX9_right_23 : decode cX9_right 23 = .ok (.getfield 119, 3) := by decide +kernel
theorem dX9_right_26 : decode cX9_right 26 = .ok (.invokestatic 105, 3) := by decide +kernel
theorem dX9_right_29 : decode cX9_right 29 = .ok (.ifCond .ne 5, 3) := by decide +kernel
theorem dX9_right_32 : decode cX9_right 32 = .ok (.iconst (-1), 1) := by decide +kernel
theorem dX9_right_33 : decode cX9_right 33 = .ok (.ireturn, 1) := by decide +kernel
theorem dX9_right_34 : decode cX9_right 34 = .ok (.iload_n 2, 1) := by decide +kernel
theorem dX9_right_35 : decode cX9_right 35 = .ok (.aload_n 0, 1) := by decide +kernel
theorem dX9_right_36 : decode cX9_right 36 = .ok (.getfield 119, 3) := by decide +kernel
theorem dX9_right_39 : decode cX9_right 39 = .ok (.if_icmp .ne 10, 3) := by decide +kernel
theorem dX9_right_42 : decode cX9_right 42 = .ok (.aload_n 0, 1) := by decide +kernel
theorem dX9_right_43 : decode cX9_right 43 = .ok (.invokevirtual 165, 3) := by decide +kernel
theorem dX9_right_46 : decode cX9_right 46 = .ok (.goto 9, 3) := by decide +kernel
theorem dX9_right_49 : decode cX9_right 49 = .ok (.aload_n 0, 1) := by decide +kernel
theorem dX9_right_50 : decode cX9_right 50 = .ok (.getfield 80, 3) := by decide +kernel
theorem dX9_right_53 : decode cX9_right 53 = .ok (.iload_n 2, 1) := by decide +kernel
theorem dX9_right_54 : decode cX9_right 54 = .ok (.iaload, 1) := by decide +kernel
theorem dX9_right_55 : decode cX9_right 55 = .ok (.istore 4, 2) := by decide +kernel
theorem dX9_right_57 : decode cX9_right 57 = .ok (.iload_n 2, 1) := by decide +kernel
theorem dX9_right_58 : decode cX9_right 58 = .ok (.aload_n 0, 1) := by decide +kernel
theorem dX9_right_59 : decode cX9_right 59 = .ok (.getfield 119, 3) := by decide +kernel
theorem dX9_right_62 : decode cX9_right 62 = .ok (.if_icmp .ne 10, 3) := by decide +kernel
theorem dX9_right_65 : decode cX9_right 65 = .ok (.aload_n 0, 1) := by decide +kernel
theorem dX9_right_66 : decode cX9_right 66 = .ok (.invokevirtual 133, 3) := by decide +kernel
theorem dX9_right_69 : decode cX9_right 69 = .ok (.goto 9, 3) := by decide +kernel
theorem dX9_right_72 : decode cX9_right 72 = .ok (.aload_n 0, 1) := by decide +kernel
theorem dX9_right_73 : decode cX9_right 73 = .ok (.getfield 77, 3) := by decide +kernel
theorem dX9_right_76 : decode cX9_right 76 = .ok (.iload_n 2, 1) := by decide +kernel
theorem dX9_right_77 : decode cX9_right 77 = .ok (.iaload, 1) := by decide +kernel
theorem dX9_right_78 : decode cX9_right 78 = .ok (.istore 5, 2) := by decide +kernel
theorem dX9_right_80 : decode cX9_right 80 = .ok (.iload 4, 2) := by decide +kernel
theorem dX9_right_82 : decode cX9_right 82 = .ok (.iload_n 1, 1) := by decide +kernel
theorem dX9_right_83 : decode cX9_right 83 = .ok (.invokestatic 125, 3) := by decide +kernel
theorem dX9_right_86 : decode cX9_right 86 = .ok (.ifCond .ne 5, 3) := by decide +kernel
theorem dX9_right_89 : decode cX9_right 89 = .ok (.iconst 2, 1) := by decide +kernel
theorem dX9_right_90 : decode cX9_right 90 = .ok (.ireturn, 1) := by decide +kernel
theorem dX9_right_91 : decode cX9_right 91 = .ok (.aload_n 0, 1) := by decide +kernel
theorem dX9_right_92 : decode cX9_right 92 = .ok (.aload_n 0, 1) := by decide +kernel
theorem dX9_right_93 : decode cX9_right 93 = .ok (.getfield 53, 3) := by decide +kernel
theorem dX9_right_96 : decode cX9_right 96 = .ok (.iload_n 1, 1) := by decide +kernel
theorem dX9_right_97 : decode cX9_right 97 = .ok (.iaload, 1) := by decide +kernel
theorem dX9_right_98 : decode cX9_right 98 = .ok (.iload 5, 2) := by decide +kernel
theorem dX9_right_100 : decode cX9_right 100 = .ok (.iload_n 2, 1) := by decide +kernel
theorem dX9_right_101 : decode cX9_right 101 = .ok (.iload_n 3, 1) := by decide +kernel
theorem dX9_right_102 : decode cX9_right 102 = .ok (.invokevirtual 154, 3) := by decide +kernel
theorem dX9_right_105 : decode cX9_right 105 = .ok (.ifCond .eq 7, 3) := by decide +kernel
theorem dX9_right_108 : decode cX9_right 108 = .ok (.iconst 1, 1) := by decide +kernel
theorem dX9_right_109 : decode cX9_right 109 = .ok (.goto 4, 3) := by decide +kernel
theorem dX9_right_112 : decode cX9_right 112 = .ok (.iconst 0, 1) := by decide +kernel
theorem dX9_right_113 : decode cX9_right 113 = .ok (.ireturn, 1) := by decide +kernel
theorem dX9_asked_0 : decode cX9_asked 0 = .ok (.iconst 0, 1) := by decide +kernel
theorem dX9_asked_1 : decode cX9_asked 1 = .ok (.istore_n 1, 1) := by decide +kernel
theorem dX9_asked_2 : decode cX9_asked 2 = .ok (.iconst 0, 1) := by decide +kernel
theorem dX9_asked_3 : decode cX9_asked 3 = .ok (.istore_n 2, 1) := by decide +kernel
theorem dX9_asked_4 : decode cX9_asked 4 = .ok (.iload_n 2, 1) := by decide +kernel
theorem dX9_asked_5 : decode cX9_asked 5 = .ok (.aload_n 0, 1) := by decide +kernel
theorem dX9_asked_6 : decode cX9_asked 6 = .ok (.getfield 113, 3) := by decide +kernel
theorem dX9_asked_9 : decode cX9_asked 9 = .ok (.if_icmp .ge 28, 3) := by decide +kernel
theorem dX9_asked_12 : decode cX9_asked 12 = .ok (.iload_n 1, 1) := by decide +kernel
theorem dX9_asked_13 : decode cX9_asked 13 = .ok (.aload_n 0, 1) := by decide +kernel
theorem dX9_asked_14 : decode cX9_asked 14 = .ok (.getfield 62, 3) := by decide +kernel
theorem dX9_asked_17 : decode cX9_asked 17 = .ok (.iload_n 2, 1) := by decide +kernel
theorem dX9_asked_18 : decode cX9_asked 18 = .ok (.iaload, 1) := by decide +kernel
theorem dX9_asked_19 : decode cX9_asked 19 = .ok (.ifCond .ne 9, 3) := by decide +kernel
theorem dX9_asked_22 : decode cX9_asked 22 = .ok (.iconst 1, 1) := by decide +kernel
theorem dX9_asked_23 : decode cX9_asked 23 = .ok (.iload_n 2, 1) := by decide +kernel
theorem dX9_asked_24 : decode cX9_asked 24 = .ok (.ishl, 1) := by decide +kernel
theorem dX9_asked_25 : decode cX9_asked 25 = .ok (.goto 4, 3) := by decide +kernel
theorem dX9_asked_28 : decode cX9_asked 28 = .ok (.iconst 0, 1) := by decide +kernel
theorem dX9_asked_29 : decode cX9_asked 29 = .ok (.ior, 1) := by decide +kernel
theorem dX9_asked_30 : decode cX9_asked 30 = .ok (.istore_n 1, 1) := by decide +kernel
theorem dX9_asked_31 : decode cX9_asked 31 = .ok (.iinc 2 1, 3) := by decide +kernel
theorem dX9_asked_34 : decode cX9_asked 34 = .ok (.goto (-30), 3) := by decide +kernel
theorem dX9_asked_37 : decode cX9_asked 37 = .ok (.iload_n 1, 1) := by decide +kernel
theorem dX9_asked_38 : decode cX9_asked 38 = .ok (.ireturn, 1) := by decide +kernel
theorem dX9_moves_0 : decode cX9_moves 0 = .ok (.iload_n 1, 1) := by decide +kernel
theorem dX9_moves_1 : decode cX9_moves 1 = .ok (.ifCond .ge 7, 3) := by decide +kernel
theorem dX9_moves_4 : decode cX9_moves 4 = .ok (.iconst 0, 1) := by decide +kernel
theorem dX9_moves_5 : decode cX9_moves 5 = .ok (.goto 16, 3) := by decide +kernel
theorem dX9_moves_8 : decode cX9_moves 8 = .ok (.aload_n 0, 1) := by decide +kernel
theorem dX9_moves_9 : decode cX9_moves 9 = .ok (.getfield 59, 3) := by decide +kernel
theorem dX9_moves_12 : decode cX9_moves 12 = .ok (.iload_n 1, 1) := by decide +kernel
theorem dX9_moves_13 : decode cX9_moves 13 = .ok (.iaload, 1) := by decide +kernel
theorem dX9_moves_14 : decode cX9_moves 14 = .ok (.aload_n 0, 1) := by decide +kernel
theorem dX9_moves_15 : decode cX9_moves 15 = .ok (.getfield 325, 3) := by decide +kernel
theorem dX9_moves_18 : decode cX9_moves 18 = .ok (.iconst (-1), 1) := by decide +kernel
theorem dX9_moves_19 : decode cX9_moves 19 = .ok (.ixor, 1) := by decide +kernel
theorem dX9_moves_20 : decode cX9_moves 20 = .ok (.iand, 1) := by decide +kernel
theorem dX9_moves_21 : decode cX9_moves 21 = .ok (.istore_n 3, 1) := by decide +kernel
theorem dX9_moves_22 : decode cX9_moves 22 = .ok (.iload_n 2, 1) := by decide +kernel
theorem dX9_moves_23 : decode cX9_moves 23 = .ok (.ifCond .ge 7, 3) := by decide +kernel
theorem dX9_moves_26 : decode cX9_moves 26 = .ok (.iconst 0, 1) := by decide +kernel
theorem dX9_moves_27 : decode cX9_moves 27 = .ok (.goto 16, 3) := by decide +kernel
theorem dX9_moves_30 : decode cX9_moves 30 = .ok (.aload_n 0, 1) := by decide +kernel
theorem dX9_moves_31 : decode cX9_moves 31 = .ok (.getfield 59, 3) := by decide +kernel
theorem dX9_moves_34 : decode cX9_moves 34 = .ok (.iload_n 2, 1) := by decide +kernel
theorem dX9_moves_35 : decode cX9_moves 35 = .ok (.iaload, 1) := by decide +kernel
theorem dX9_moves_36 : decode cX9_moves 36 = .ok (.aload_n 0, 1) := by decide +kernel
theorem dX9_moves_37 : decode cX9_moves 37 = .ok (.getfield 325, 3) := by decide +kernel
theorem dX9_moves_40 : decode cX9_moves 40 = .ok (.iconst (-1), 1) := by decide +kernel
theorem dX9_moves_41 : decode cX9_moves 41 = .ok (.ixor, 1) := by decide +kernel
theorem dX9_moves_42 : decode cX9_moves 42 = .ok (.iand, 1) := by decide +kernel
theorem dX9_moves_43 : decode cX9_moves 43 = .ok (.istore 4, 2) := by decide +kernel
theorem dX9_moves_45 : decode cX9_moves 45 = .ok (.iload_n 3, 1) := by decide +kernel
theorem dX9_moves_46 : decode cX9_moves 46 = .ok (.iload 4, 2) := by decide +kernel
theorem dX9_moves_48 : decode cX9_moves 48 = .ok (.ixor, 1) := by decide +kernel
theorem dX9_moves_49 : decode cX9_moves 49 = .ok (.invokestatic 303, 3) := by decide +kernel
theorem dX9_moves_52 : decode cX9_moves 52 = .ok (.ireturn, 1) := by decide +kernel
theorem dX9_findRest_0 : decode cX9_findRest 0 = .ok (.iload_n 1, 1) := by decide +kernel
theorem dX9_findRest_1 : decode cX9_findRest 1 = .ok (.istore_n 2, 1) := by decide +kernel
theorem dX9_findRest_2 : decode cX9_findRest 2 = .ok (.iload_n 2, 1) := by decide +kernel
theorem dX9_findRest_3 : decode cX9_findRest 3 = .ok (.ifCond .le 150, 3) := by decide +kernel
theorem dX9_findRest_6 : decode cX9_findRest 6 = .ok (.iconst 0, 1) := by decide +kernel
theorem dX9_findRest_7 : decode cX9_findRest 7 = .ok (.istore_n 3, 1) := by decide +kernel
theorem dX9_findRest_8 : decode cX9_findRest 8 = .ok (.iload_n 3, 1) := by decide +kernel
theorem dX9_findRest_9 : decode cX9_findRest 9 = .ok (.aload_n 0, 1) := by decide +kernel
theorem dX9_findRest_10 : decode cX9_findRest 10 = .ok (.getfield 113, 3) := by decide +kernel
theorem dX9_findRest_13 : decode cX9_findRest 13 = .ok (.if_icmp .ge 134, 3) := by decide +kernel
theorem dX9_findRest_16 : decode cX9_findRest 16 = .ok (.iload_n 2, 1) := by decide +kernel
theorem dX9_findRest_17 : decode cX9_findRest 17 = .ok (.iload_n 1, 1) := by decide +kernel
theorem dX9_findRest_18 : decode cX9_findRest 18 = .ok (.iconst (-1), 1) := by decide +kernel
theorem dX9_findRest_19 : decode cX9_findRest 19 = .ok (.ixor, 1) := by decide +kernel
theorem dX9_findRest_20 : decode cX9_findRest 20 = .ok (.iand, 1) := by decide +kernel
theorem dX9_findRest_21 : decode cX9_findRest 21 = .ok (.ifCond .ne 120, 3) := by decide +kernel
theorem dX9_findRest_24 : decode cX9_findRest 24 = .ok (.iload_n 2, 1) := by decide +kernel
theorem dX9_findRest_25 : decode cX9_findRest 25 = .ok (.iload_n 3, 1) := by decide +kernel
theorem dX9_findRest_26 : decode cX9_findRest 26 = .ok (.invokestatic 125, 3) := by decide +kernel
theorem dX9_findRest_29 : decode cX9_findRest 29 = .ok (.ifCond .ne 6, 3) := by decide +kernel
theorem dX9_findRest_32 : decode cX9_findRest 32 = .ok (.goto 109, 3) := by decide +kernel
theorem dX9_findRest_35 : decode cX9_findRest 35 = .ok (.iload_n 2, 1) := by decide +kernel
theorem dX9_findRest_36 : decode cX9_findRest 36 = .ok (.iload_n 1, 1) := by decide +kernel
theorem dX9_findRest_37 : decode cX9_findRest 37 = .ok (.if_icmp .ne 12, 3) := by decide +kernel
theorem dX9_findRest_40 : decode cX9_findRest 40 = .ok (.aload_n 0, 1) := by decide +kernel
theorem dX9_findRest_41 : decode cX9_findRest 41 = .ok (.iload_n 3, 1) := by decide +kernel
theorem dX9_findRest_42 : decode cX9_findRest 42 = .ok (.iconst (-1), 1) := by decide +kernel
theorem dX9_findRest_43 : decode cX9_findRest 43 = .ok (.invokevirtual 328, 3) := by decide +kernel
theorem dX9_findRest_46 : decode cX9_findRest 46 = .ok (.goto 6, 3) := by decide +kernel
theorem dX9_findRest_49 : decode cX9_findRest 49 = .ok (.sipush 1000, 3) := by decide +kernel
theorem dX9_findRest_52 : decode cX9_findRest 52 = .ok (.istore 4, 2) := by decide +kernel
theorem dX9_findRest_54 : decode cX9_findRest 54 = .ok (.iconst 0, 1) := by decide +kernel
theorem dX9_findRest_55 : decode cX9_findRest 55 = .ok (.istore 5, 2) := by decide +kernel
theorem dX9_findRest_57 : decode cX9_findRest 57 = .ok (.iload 5, 2) := by decide +kernel
theorem dX9_findRest_59 : decode cX9_findRest 59 = .ok (.aload_n 0, 1) := by decide +kernel
theorem dX9_findRest_60 : decode cX9_findRest 60 = .ok (.getfield 113, 3) := by decide +kernel
theorem dX9_findRest_63 : decode cX9_findRest 63 = .ok (.if_icmp .ge 65, 3) := by decide +kernel
theorem dX9_findRest_66 : decode cX9_findRest 66 = .ok (.iload_n 1, 1) := by decide +kernel
theorem dX9_findRest_67 : decode cX9_findRest 67 = .ok (.iload_n 2, 1) := by decide +kernel
theorem dX9_findRest_68 : decode cX9_findRest 68 = .ok (.iconst (-1), 1) := by decide +kernel
theorem dX9_findRest_69 : decode cX9_findRest 69 = .ok (.ixor, 1) := by decide +kernel
theorem dX9_findRest_70 : decode cX9_findRest 70 = .ok (.iand, 1) := by decide +kernel
theorem dX9_findRest_71 : decode cX9_findRest 71 = .ok (.iload 5, 2) := by decide +kernel
theorem dX9_findRest_73 : decode cX9_findRest 73 = .ok (.invokestatic 125, 3) := by decide +kernel
theorem dX9_findRest_76 : decode cX9_findRest 76 = .ok (.ifCond .eq 46, 3) := by decide +kernel
theorem dX9_findRest_79 : decode cX9_findRest 79 = .ok (.aload_n 0, 1) := by decide +kernel
theorem dX9_findRest_80 : decode cX9_findRest 80 = .ok (.iload_n 3, 1) := by decide +kernel
theorem dX9_findRest_81 : decode cX9_findRest 81 = .ok (.iload 5, 2) := by decide +kernel
theorem dX9_findRest_83 : decode cX9_findRest 83 = .ok (.invokevirtual 328, 3) := by decide +kernel
theorem dX9_findRest_86 : decode cX9_findRest 86 = .ok (.aload_n 0, 1) := by decide +kernel
theorem dX9_findRest_87 : decode cX9_findRest 87 = .ok (.getfield 89, 3) := by decide +kernel
theorem dX9_findRest_90 : decode cX9_findRest 90 = .ok (.bipush 7, 2) := by decide +kernel
theorem dX9_findRest_92 : decode cX9_findRest 92 = .ok (.iload_n 2, 1) := by decide +kernel
theorem dX9_findRest_93 : decode cX9_findRest 93 = .ok (.iconst 1, 1) := by decide +kernel
theorem dX9_findRest_94 : decode cX9_findRest 94 = .ok (.iload 5, 2) := by decide +kernel
theorem dX9_findRest_96 : decode cX9_findRest 96 = .ok (.ishl, 1) := by decide +kernel
theorem dX9_findRest_97 : decode cX9_findRest 97 = .ok (.ior, 1) := by decide +kernel
theorem dX9_findRest_98 : decode cX9_findRest 98 = .ok (.imul, 1) := by decide +kernel
theorem dX9_findRest_99 : decode cX9_findRest 99 = .ok (.iload 5, 2) := by decide +kernel
theorem dX9_findRest_101 : decode cX9_findRest 101 = .ok (.iadd, 1) := by decide +kernel
theorem dX9_findRest_102 : decode cX9_findRest 102 = .ok (.iaload, 1) := by decide +kernel
theorem dX9_findRest_103 : decode cX9_findRest 103 = .ok (.iadd, 1) := by decide +kernel
theorem dX9_findRest_104 : decode cX9_findRest 104 = .ok (.istore 6, 2) := by decide +kernel
theorem dX9_findRest_106 : decode cX9_findRest 106 = .ok (.iload 6, 2) := by decide +kernel
theorem dX9_findRest_108 : decode cX9_findRest 108 = .ok (.iload 4, 2) := by decide +kernel
theorem dX9_findRest_110 : decode cX9_findRest 110 = .ok (.if_icmp .ge 8, 3) := by decide +kernel
theorem dX9_findRest_113 : decode cX9_findRest 113 = .ok (.iload 6, 2) := by decide +kernel
theorem dX9_findRest_115 : decode cX9_findRest 115 = .ok (.goto 5, 3) := by decide +kernel
theorem dX9_findRest_118 : decode cX9_findRest 118 = .ok (.iload 4, 2) := by decide +kernel
theorem dX9_findRest_120 : decode cX9_findRest 120 = .ok (.istore 4, 2) := by decide +kernel
theorem dX9_findRest_122 : decode cX9_findRest 122 = .ok (.iinc 5 1, 3) := by decide +kernel
theorem dX9_findRest_125 : decode cX9_findRest 125 = .ok (.goto (-68), 3) := by decide +kernel
theorem dX9_findRest_128 : decode cX9_findRest 128 = .ok (.aload_n 0, 1) := by decide +kernel
theorem dX9_findRest_129 : decode cX9_findRest 129 = .ok (.getfield 89, 3) := by decide +kernel
theorem dX9_findRest_132 : decode cX9_findRest 132 = .ok (.bipush 7, 2) := by decide +kernel
theorem dX9_findRest_134 : decode cX9_findRest 134 = .ok (.iload_n 2, 1) := by decide +kernel
theorem dX9_findRest_135 : decode cX9_findRest 135 = .ok (.imul, 1) := by decide +kernel
theorem dX9_findRest_136 : decode cX9_findRest 136 = .ok (.iload_n 3, 1) := by decide +kernel
theorem dX9_findRest_137 : decode cX9_findRest 137 = .ok (.iadd, 1) := by decide +kernel
theorem dX9_findRest_138 : decode cX9_findRest 138 = .ok (.iload 4, 2) := by decide +kernel
theorem dX9_findRest_140 : decode cX9_findRest 140 = .ok (.iastore, 1) := by decide +kernel
theorem dX9_findRest_141 : decode cX9_findRest 141 = .ok (.iinc 3 1, 3) := by decide +kernel
theorem dX9_findRest_144 : decode cX9_findRest 144 = .ok (.goto (-136), 3) := by decide +kernel
theorem dX9_findRest_147 : decode cX9_findRest 147 = .ok (.iinc 2 (-1), 3) := by decide +kernel
theorem dX9_findRest_150 : decode cX9_findRest 150 = .ok (.goto (-148), 3) := by decide +kernel
theorem dX9_findRest_153 : decode cX9_findRest 153 = .ok (.return_, 1) := by decide +kernel
theorem dX9_order_0 : decode cX9_order 0 = .ok (.aload_n 0, 1) := by decide +kernel
theorem dX9_order_1 : decode cX9_order 1 = .ok (.invokevirtual 331, 3) := by decide +kernel
theorem dX9_order_4 : decode cX9_order 4 = .ok (.istore_n 1, 1) := by decide +kernel
theorem dX9_order_5 : decode cX9_order 5 = .ok (.aload_n 0, 1) := by decide +kernel
theorem dX9_order_6 : decode cX9_order 6 = .ok (.aload_n 0, 1) := by decide +kernel
theorem dX9_order_7 : decode cX9_order 7 = .ok (.invokevirtual 133, 3) := by decide +kernel
theorem dX9_order_10 : decode cX9_order 10 = .ok (.putfield 325, 3) := by decide +kernel
theorem dX9_order_13 : decode cX9_order 13 = .ok (.aload_n 0, 1) := by decide +kernel
theorem dX9_order_14 : decode cX9_order 14 = .ok (.iload_n 1, 1) := by decide +kernel
theorem dX9_order_15 : decode cX9_order 15 = .ok (.invokevirtual 334, 3) := by decide +kernel
theorem dX9_order_18 : decode cX9_order 18 = .ok (.aload_n 0, 1) := by decide +kernel
theorem dX9_order_19 : decode cX9_order 19 = .ok (.iconst 0, 1) := by decide +kernel
theorem dX9_order_20 : decode cX9_order 20 = .ok (.putfield 337, 3) := by decide +kernel
theorem dX9_order_23 : decode cX9_order 23 = .ok (.aload_n 0, 1) := by decide +kernel
theorem dX9_order_24 : decode cX9_order 24 = .ok (.iconst 0, 1) := by decide +kernel
theorem dX9_order_25 : decode cX9_order 25 = .ok (.putfield 340, 3) := by decide +kernel
theorem dX9_order_28 : decode cX9_order 28 = .ok (.aload_n 0, 1) := by decide +kernel
theorem dX9_order_29 : decode cX9_order 29 = .ok (.iconst 1, 1) := by decide +kernel
theorem dX9_order_30 : decode cX9_order 30 = .ok (.putfield 343, 3) := by decide +kernel
theorem dX9_order_33 : decode cX9_order 33 = .ok (.iconst 0, 1) := by decide +kernel
theorem dX9_order_34 : decode cX9_order 34 = .ok (.istore_n 2, 1) := by decide +kernel
theorem dX9_order_35 : decode cX9_order 35 = .ok (.iconst (-1), 1) := by decide +kernel
theorem dX9_order_36 : decode cX9_order 36 = .ok (.istore_n 3, 1) := by decide +kernel
theorem dX9_order_37 : decode cX9_order 37 = .ok (.iconst 0, 1) := by decide +kernel
theorem dX9_order_38 : decode cX9_order 38 = .ok (.istore 4, 2) := by decide +kernel
theorem dX9_order_40 : decode cX9_order 40 = .ok (.iconst 0, 1) := by decide +kernel
theorem dX9_order_41 : decode cX9_order 41 = .ok (.istore 5, 2) := by decide +kernel
theorem dX9_order_43 : decode cX9_order 43 = .ok (.iload_n 2, 1) := by decide +kernel
theorem dX9_order_44 : decode cX9_order 44 = .ok (.iload_n 1, 1) := by decide +kernel
theorem dX9_order_45 : decode cX9_order 45 = .ok (.if_icmp .eq 209, 3) := by decide +kernel
theorem dX9_order_48 : decode cX9_order 48 = .ok (.iconst (-1), 1) := by decide +kernel
theorem dX9_order_49 : decode cX9_order 49 = .ok (.istore 6, 2) := by decide +kernel
theorem dX9_order_51 : decode cX9_order 51 = .ok (.sipush 1000, 3) := by decide +kernel
theorem dX9_order_54 : decode cX9_order 54 = .ok (.istore 7, 2) := by decide +kernel
theorem dX9_order_56 : decode cX9_order 56 = .ok (.iconst 0, 1) := by decide +kernel
theorem dX9_order_57 : decode cX9_order 57 = .ok (.istore 8, 2) := by decide +kernel
theorem dX9_order_59 : decode cX9_order 59 = .ok (.iload 8, 2) := by decide +kernel
theorem dX9_order_61 : decode cX9_order 61 = .ok (.aload_n 0, 1) := by decide +kernel
theorem dX9_order_62 : decode cX9_order 62 = .ok (.getfield 113, 3) := by decide +kernel
theorem dX9_order_65 : decode cX9_order 65 = .ok (.if_icmp .ge 139, 3) := by decide +kernel
theorem dX9_order_68 : decode cX9_order 68 = .ok (.iload_n 1, 1) := by decide +kernel
theorem dX9_order_69 : decode cX9_order 69 = .ok (.iload_n 2, 1) := by decide +kernel
theorem dX9_order_70 : decode cX9_order 70 = .ok (.iconst (-1), 1) := by decide +kernel
theorem dX9_order_71 : decode cX9_order 71 = .ok (.ixor, 1) := by decide +kernel
theorem dX9_order_72 : decode cX9_order 72 = .ok (.iand, 1) := by decide +kernel
theorem dX9_order_73 : decode cX9_order 73 = .ok (.iload 8, 2) := by decide +kernel
theorem dX9_order_75 : decode cX9_order 75 = .ok (.invokestatic 125, 3) := by decide +kernel
theorem dX9_order_78 : decode cX9_order 78 = .ok (.ifCond .eq 120, 3) := by decide +kernel
theorem dX9_order_81 : decode cX9_order 81 = .ok (.iload 4, 2) := by decide +kernel
theorem dX9_order_83 : decode cX9_order 83 = .ok (.aload_n 0, 1) := by decide +kernel
theorem dX9_order_84 : decode cX9_order 84 = .ok (.iload_n 3, 1) := by decide +kernel
theorem dX9_order_85 : decode cX9_order 85 = .ok (.iload 8, 2) := by decide +kernel
theorem dX9_order_87 : decode cX9_order 87 = .ok (.invokevirtual 328, 3) := by decide +kernel
theorem dX9_order_90 : decode cX9_order 90 = .ok (.iadd, 1) := by decide +kernel
theorem dX9_order_91 : decode cX9_order 91 = .ok (.aload_n 0, 1) := by decide +kernel
theorem dX9_order_92 : decode cX9_order 92 = .ok (.getfield 89, 3) := by decide +kernel
theorem dX9_order_95 : decode cX9_order 95 = .ok (.bipush 7, 2) := by decide +kernel
theorem dX9_order_97 : decode cX9_order 97 = .ok (.iload_n 2, 1) := by decide +kernel
theorem dX9_order_98 : decode cX9_order 98 = .ok (.iconst 1, 1) := by decide +kernel
theorem dX9_order_99 : decode cX9_order 99 = .ok (.iload 8, 2) := by decide +kernel
theorem dX9_order_101 : decode cX9_order 101 = .ok (.ishl, 1) := by decide +kernel
theorem dX9_order_102 : decode cX9_order 102 = .ok (.ior, 1) := by decide +kernel
theorem dX9_order_103 : decode cX9_order 103 = .ok (.imul, 1) := by decide +kernel
theorem dX9_order_104 : decode cX9_order 104 = .ok (.iload 8, 2) := by decide +kernel
theorem dX9_order_106 : decode cX9_order 106 = .ok (.iadd, 1) := by decide +kernel
theorem dX9_order_107 : decode cX9_order 107 = .ok (.iaload, 1) := by decide +kernel
theorem dX9_order_108 : decode cX9_order 108 = .ok (.iadd, 1) := by decide +kernel
theorem dX9_order_109 : decode cX9_order 109 = .ok (.istore 9, 2) := by decide +kernel
theorem dX9_order_111 : decode cX9_order 111 = .ok (.aload_n 0, 1) := by decide +kernel
theorem dX9_order_112 : decode cX9_order 112 = .ok (.getfield 95, 3) := by decide +kernel
theorem dX9_order_115 : decode cX9_order 115 = .ok (.iconst 3, 1) := by decide +kernel
theorem dX9_order_116 : decode cX9_order 116 = .ok (.aload_n 0, 1) := by decide +kernel
theorem dX9_order_117 : decode cX9_order 117 = .ok (.getfield 340, 3) := by decide +kernel
theorem dX9_order_120 : decode cX9_order 120 = .ok (.imul, 1) := by decide +kernel
theorem dX9_order_121 : decode cX9_order 121 = .ok (.aload_n 0, 1) := by decide +kernel
theorem dX9_order_122 : decode cX9_order 122 = .ok (.getfield 337, 3) := by decide +kernel
theorem dX9_order_125 : decode cX9_order 125 = .ok (.iastore, 1) := by decide +kernel
theorem dX9_order_126 : decode cX9_order 126 = .ok (.aload_n 0, 1) := by decide +kernel
theorem dX9_order_127 : decode cX9_order 127 = .ok (.getfield 95, 3) := by decide +kernel
theorem dX9_order_130 : decode cX9_order 130 = .ok (.iconst 3, 1) := by decide +kernel
theorem dX9_order_131 : decode cX9_order 131 = .ok (.aload_n 0, 1) := by decide +kernel
theorem dX9_order_132 : decode cX9_order 132 = .ok (.getfield 340, 3) := by decide +kernel
theorem dX9_order_135 : decode cX9_order 135 = .ok (.imul, 1) := by decide +kernel
theorem dX9_order_136 : decode cX9_order 136 = .ok (.iconst 1, 1) := by decide +kernel
theorem dX9_order_137 : decode cX9_order 137 = .ok (.iadd, 1) := by decide +kernel
theorem dX9_order_138 : decode cX9_order 138 = .ok (.iload 8, 2) := by decide +kernel
theorem dX9_order_140 : decode cX9_order 140 = .ok (.iastore, 1) := by decide +kernel
theorem dX9_order_141 : decode cX9_order 141 = .ok (.aload_n 0, 1) := by decide +kernel
theorem dX9_order_142 : decode cX9_order 142 = .ok (.getfield 95, 3) := by decide +kernel
theorem dX9_order_145 : decode cX9_order 145 = .ok (.iconst 3, 1) := by decide +kernel
theorem dX9_order_146 : decode cX9_order 146 = .ok (.aload_n 0, 1) := by decide +kernel
theorem dX9_order_147 : decode cX9_order 147 = .ok (.getfield 340, 3) := by decide +kernel
theorem dX9_order_150 : decode cX9_order 150 = .ok (.imul, 1) := by decide +kernel
theorem dX9_order_151 : decode cX9_order 151 = .ok (.iconst 2, 1) := by decide +kernel
theorem dX9_order_152 : decode cX9_order 152 = .ok (.iadd, 1) := by decide +kernel
theorem dX9_order_153 : decode cX9_order 153 = .ok (.iload 9, 2) := by decide +kernel
theorem dX9_order_155 : decode cX9_order 155 = .ok (.iastore, 1) := by decide +kernel
theorem dX9_order_156 : decode cX9_order 156 = .ok (.aload_n 0, 1) := by decide +kernel
theorem dX9_order_157 : decode cX9_order 157 = .ok (.dup, 1) := by decide +kernel
theorem dX9_order_158 : decode cX9_order 158 = .ok (.getfield 340, 3) := by decide +kernel
theorem dX9_order_161 : decode cX9_order 161 = .ok (.iconst 1, 1) := by decide +kernel
theorem dX9_order_162 : decode cX9_order 162 = .ok (.iadd, 1) := by decide +kernel
theorem dX9_order_163 : decode cX9_order 163 = .ok (.putfield 340, 3) := by decide +kernel
theorem dX9_order_166 : decode cX9_order 166 = .ok (.iload 9, 2) := by decide +kernel
theorem dX9_order_168 : decode cX9_order 168 = .ok (.iload 7, 2) := by decide +kernel
theorem dX9_order_170 : decode cX9_order 170 = .ok (.if_icmp .ge 8, 3) := by decide +kernel
theorem dX9_order_173 : decode cX9_order 173 = .ok (.iload 8, 2) := by decide +kernel
theorem dX9_order_175 : decode cX9_order 175 = .ok (.goto 5, 3) := by decide +kernel
theorem dX9_order_178 : decode cX9_order 178 = .ok (.iload 6, 2) := by decide +kernel
theorem dX9_order_180 : decode cX9_order 180 = .ok (.istore 6, 2) := by decide +kernel
theorem dX9_order_182 : decode cX9_order 182 = .ok (.iload 9, 2) := by decide +kernel
theorem dX9_order_184 : decode cX9_order 184 = .ok (.iload 7, 2) := by decide +kernel
theorem dX9_order_186 : decode cX9_order 186 = .ok (.if_icmp .ge 8, 3) := by decide +kernel
theorem dX9_order_189 : decode cX9_order 189 = .ok (.iload 9, 2) := by decide +kernel
theorem dX9_order_191 : decode cX9_order 191 = .ok (.goto 5, 3) := by decide +kernel
theorem dX9_order_194 : decode cX9_order 194 = .ok (.iload 7, 2) := by decide +kernel
theorem dX9_order_196 : decode cX9_order 196 = .ok (.istore 7, 2) := by decide +kernel
theorem dX9_order_198 : decode cX9_order 198 = .ok (.iinc 8 1, 3) := by decide +kernel
theorem dX9_order_201 : decode cX9_order 201 = .ok (.goto (-142), 3) := by decide +kernel
theorem dX9_order_204 : decode cX9_order 204 = .ok (.iload 7, 2) := by decide +kernel
theorem dX9_order_206 : decode cX9_order 206 = .ok (.istore 5, 2) := by decide +kernel
theorem dX9_order_208 : decode cX9_order 208 = .ok (.iload 4, 2) := by decide +kernel
theorem dX9_order_210 : decode cX9_order 210 = .ok (.aload_n 0, 1) := by decide +kernel
theorem dX9_order_211 : decode cX9_order 211 = .ok (.iload_n 3, 1) := by decide +kernel
theorem dX9_order_212 : decode cX9_order 212 = .ok (.iload 6, 2) := by decide +kernel
theorem dX9_order_214 : decode cX9_order 214 = .ok (.invokevirtual 328, 3) := by decide +kernel
theorem dX9_order_217 : decode cX9_order 217 = .ok (.iadd, 1) := by decide +kernel
theorem dX9_order_218 : decode cX9_order 218 = .ok (.istore 4, 2) := by decide +kernel
theorem dX9_order_220 : decode cX9_order 220 = .ok (.aload_n 0, 1) := by decide +kernel
theorem dX9_order_221 : decode cX9_order 221 = .ok (.getfield 92, 3) := by decide +kernel
theorem dX9_order_224 : decode cX9_order 224 = .ok (.aload_n 0, 1) := by decide +kernel
theorem dX9_order_225 : decode cX9_order 225 = .ok (.getfield 337, 3) := by decide +kernel
theorem dX9_order_228 : decode cX9_order 228 = .ok (.iload 6, 2) := by decide +kernel
theorem dX9_order_230 : decode cX9_order 230 = .ok (.iastore, 1) := by decide +kernel
theorem dX9_order_231 : decode cX9_order 231 = .ok (.aload_n 0, 1) := by decide +kernel
theorem dX9_order_232 : decode cX9_order 232 = .ok (.dup, 1) := by decide +kernel
theorem dX9_order_233 : decode cX9_order 233 = .ok (.getfield 337, 3) := by decide +kernel
theorem dX9_order_236 : decode cX9_order 236 = .ok (.iconst 1, 1) := by decide +kernel
theorem dX9_order_237 : decode cX9_order 237 = .ok (.iadd, 1) := by decide +kernel
theorem dX9_order_238 : decode cX9_order 238 = .ok (.putfield 337, 3) := by decide +kernel
theorem dX9_order_241 : decode cX9_order 241 = .ok (.iload_n 2, 1) := by decide +kernel
theorem dX9_order_242 : decode cX9_order 242 = .ok (.iconst 1, 1) := by decide +kernel
theorem dX9_order_243 : decode cX9_order 243 = .ok (.iload 6, 2) := by decide +kernel
theorem dX9_order_245 : decode cX9_order 245 = .ok (.ishl, 1) := by decide +kernel
theorem dX9_order_246 : decode cX9_order 246 = .ok (.ior, 1) := by decide +kernel
theorem dX9_order_247 : decode cX9_order 247 = .ok (.istore_n 2, 1) := by decide +kernel
theorem dX9_order_248 : decode cX9_order 248 = .ok (.iload 6, 2) := by decide +kernel
theorem dX9_order_250 : decode cX9_order 250 = .ok (.istore_n 3, 1) := by decide +kernel
theorem dX9_order_251 : decode cX9_order 251 = .ok (.goto (-208), 3) := by decide +kernel
theorem dX9_order_254 : decode cX9_order 254 = .ok (.aload_n 0, 1) := by decide +kernel
theorem dX9_order_255 : decode cX9_order 255 = .ok (.aload_n 0, 1) := by decide +kernel
theorem dX9_order_256 : decode cX9_order 256 = .ok (.getfield 340, 3) := by decide +kernel
theorem dX9_order_259 : decode cX9_order 259 = .ok (.putfield 347, 3) := by decide +kernel
theorem dX9_order_262 : decode cX9_order 262 = .ok (.iconst 0, 1) := by decide +kernel
theorem dX9_order_263 : decode cX9_order 263 = .ok (.istore 6, 2) := by decide +kernel
theorem dX9_order_265 : decode cX9_order 265 = .ok (.iload 6, 2) := by decide +kernel
theorem dX9_order_267 : decode cX9_order 267 = .ok (.iconst 3, 1) := by decide +kernel
theorem dX9_order_268 : decode cX9_order 268 = .ok (.aload_n 0, 1) := by decide +kernel
theorem dX9_order_269 : decode cX9_order 269 = .ok (.getfield 340, 3) := by decide +kernel
theorem dX9_order_272 : decode cX9_order 272 = .ok (.imul, 1) := by decide +kernel
theorem dX9_order_273 : decode cX9_order 273 = .ok (.if_icmp .ge 23, 3) := by decide +kernel
theorem dX9_order_276 : decode cX9_order 276 = .ok (.aload_n 0, 1) := by decide +kernel
theorem dX9_order_277 : decode cX9_order 277 = .ok (.getfield 98, 3) := by decide +kernel
theorem dX9_order_280 : decode cX9_order 280 = .ok (.iload 6, 2) := by decide +kernel
theorem dX9_order_282 : decode cX9_order 282 = .ok (.aload_n 0, 1) := by decide +kernel
theorem dX9_order_283 : decode cX9_order 283 = .ok (.getfield 95, 3) := by decide +kernel
theorem dX9_order_286 : decode cX9_order 286 = .ok (.iload 6, 2) := by decide +kernel
theorem dX9_order_288 : decode cX9_order 288 = .ok (.iaload, 1) := by decide +kernel
theorem dX9_order_289 : decode cX9_order 289 = .ok (.iastore, 1) := by decide +kernel
theorem dX9_order_290 : decode cX9_order 290 = .ok (.iinc 6 1, 3) := by decide +kernel
theorem dX9_order_293 : decode cX9_order 293 = .ok (.goto (-28), 3) := by decide +kernel
theorem dX9_order_296 : decode cX9_order 296 = .ok (.iload 5, 2) := by decide +kernel
theorem dX9_order_298 : decode cX9_order 298 = .ok (.ireturn, 1) := by decide +kernel
theorem dX9_ordered_0 : decode cX9_ordered 0 = .ok (.iload_n 1, 1) := by decide +kernel
theorem dX9_ordered_1 : decode cX9_ordered 1 = .ok (.iconst 0, 1) := by decide +kernel
theorem dX9_ordered_2 : decode cX9_ordered 2 = .ok (.aload_n 0, 1) := by decide +kernel
theorem dX9_ordered_3 : decode cX9_ordered 3 = .ok (.getfield 337, 3) := by decide +kernel
theorem dX9_ordered_6 : decode cX9_ordered 6 = .ok (.iconst 1, 1) := by decide +kernel
theorem dX9_ordered_7 : decode cX9_ordered 7 = .ok (.isub, 1) := by decide +kernel
theorem dX9_ordered_8 : decode cX9_ordered 8 = .ok (.invokestatic 105, 3) := by decide +kernel
theorem dX9_ordered_11 : decode cX9_ordered 11 = .ok (.ifCond .eq 12, 3) := by decide +kernel
theorem dX9_ordered_14 : decode cX9_ordered 14 = .ok (.aload_n 0, 1) := by decide +kernel
theorem dX9_ordered_15 : decode cX9_ordered 15 = .ok (.getfield 92, 3) := by decide +kernel
theorem dX9_ordered_18 : decode cX9_ordered 18 = .ok (.iload_n 1, 1) := by decide +kernel
theorem dX9_ordered_19 : decode cX9_ordered 19 = .ok (.iaload, 1) := by decide +kernel
theorem dX9_ordered_20 : decode cX9_ordered 20 = .ok (.goto 5, 3) := by decide +kernel
theorem dX9_ordered_23 : decode cX9_ordered 23 = .ok (.bipush (-3), 2) := by decide +kernel
theorem dX9_ordered_25 : decode cX9_ordered 25 = .ok (.ireturn, 1) := by decide +kernel
theorem dX9_row_0 : decode cX9_row 0 = .ok (.iload_n 2, 1) := by decide +kernel
theorem dX9_row_1 : decode cX9_row 1 = .ok (.iconst 0, 1) := by decide +kernel
theorem dX9_row_2 : decode cX9_row 2 = .ok (.iconst 2, 1) := by decide +kernel
theorem dX9_row_3 : decode cX9_row 3 = .ok (.invokestatic 105, 3) := by decide +kernel
theorem dX9_row_6 : decode cX9_row 6 = .ok (.ifCond .ne 5, 3) := by decide +kernel
theorem dX9_row_9 : decode cX9_row 9 = .ok (.iconst (-1), 1) := by decide +kernel
theorem dX9_row_10 : decode cX9_row 10 = .ok (.ireturn, 1) := by decide +kernel
theorem dX9_row_11 : decode cX9_row 11 = .ok (.iload_n 1, 1) := by decide +kernel
theorem dX9_row_12 : decode cX9_row 12 = .ok (.iconst 0, 1) := by decide +kernel
theorem dX9_row_13 : decode cX9_row 13 = .ok (.aload_n 0, 1) := by decide +kernel
theorem dX9_row_14 : decode cX9_row 14 = .ok (.getfield 347, 3) := by decide +kernel
theorem dX9_row_17 : decode cX9_row 17 = .ok (.iconst 1, 1) := by decide +kernel
theorem dX9_row_18 : decode cX9_row 18 = .ok (.isub, 1) := by decide +kernel
theorem dX9_row_19 : decode cX9_row 19 = .ok (.invokestatic 105, 3) := by decide +kernel
theorem dX9_row_22 : decode cX9_row 22 = .ok (.ifCond .eq 16, 3) := by decide +kernel
theorem dX9_row_25 : decode cX9_row 25 = .ok (.aload_n 0, 1) := by decide +kernel
theorem dX9_row_26 : decode cX9_row 26 = .ok (.getfield 98, 3) := by decide +kernel
theorem dX9_row_29 : decode cX9_row 29 = .ok (.iconst 3, 1) := by decide +kernel
theorem dX9_row_30 : decode cX9_row 30 = .ok (.iload_n 1, 1) := by decide +kernel
theorem dX9_row_31 : decode cX9_row 31 = .ok (.imul, 1) := by decide +kernel
theorem dX9_row_32 : decode cX9_row 32 = .ok (.iload_n 2, 1) := by decide +kernel
theorem dX9_row_33 : decode cX9_row 33 = .ok (.iadd, 1) := by decide +kernel
theorem dX9_row_34 : decode cX9_row 34 = .ok (.iaload, 1) := by decide +kernel
theorem dX9_row_35 : decode cX9_row 35 = .ok (.goto 5, 3) := by decide +kernel
theorem dX9_row_38 : decode cX9_row 38 = .ok (.bipush (-3), 2) := by decide +kernel
theorem dX9_row_40 : decode cX9_row 40 = .ok (.ireturn, 1) := by decide +kernel
theorem dX9_alter_0 : decode cX9_alter 0 = .ok (.iload_n 2, 1) := by decide +kernel
theorem dX9_alter_1 : decode cX9_alter 1 = .ok (.iconst 0, 1) := by decide +kernel
theorem dX9_alter_2 : decode cX9_alter 2 = .ok (.iconst 2, 1) := by decide +kernel
theorem dX9_alter_3 : decode cX9_alter 3 = .ok (.invokestatic 105, 3) := by decide +kernel
theorem dX9_alter_6 : decode cX9_alter 6 = .ok (.ifCond .ne 5, 3) := by decide +kernel
theorem dX9_alter_9 : decode cX9_alter 9 = .ok (.iconst (-1), 1) := by decide +kernel
theorem dX9_alter_10 : decode cX9_alter 10 = .ok (.ireturn, 1) := by decide +kernel
theorem dX9_alter_11 : decode cX9_alter 11 = .ok (.iload_n 1, 1) := by decide +kernel
theorem dX9_alter_12 : decode cX9_alter 12 = .ok (.iconst 0, 1) := by decide +kernel
theorem dX9_alter_13 : decode cX9_alter 13 = .ok (.aload_n 0, 1) := by decide +kernel
theorem dX9_alter_14 : decode cX9_alter 14 = .ok (.getfield 347, 3) := by decide +kernel
theorem dX9_alter_17 : decode cX9_alter 17 = .ok (.iconst 1, 1) := by decide +kernel
theorem dX9_alter_18 : decode cX9_alter 18 = .ok (.isub, 1) := by decide +kernel
theorem dX9_alter_19 : decode cX9_alter 19 = .ok (.invokestatic 105, 3) := by decide +kernel
theorem dX9_alter_22 : decode cX9_alter 22 = .ok (.ifCond .ne 6, 3) := by decide +kernel
theorem dX9_alter_25 : decode cX9_alter 25 = .ok (.bipush (-3), 2) := by decide +kernel
theorem dX9_alter_27 : decode cX9_alter 27 = .ok (.ireturn, 1) := by decide +kernel
theorem dX9_alter_28 : decode cX9_alter 28 = .ok (.aload_n 0, 1) := by decide +kernel
theorem dX9_alter_29 : decode cX9_alter 29 = .ok (.getfield 98, 3) := by decide +kernel
theorem dX9_alter_32 : decode cX9_alter 32 = .ok (.iconst 3, 1) := by decide +kernel
theorem dX9_alter_33 : decode cX9_alter 33 = .ok (.iload_n 1, 1) := by decide +kernel
theorem dX9_alter_34 : decode cX9_alter 34 = .ok (.imul, 1) := by decide +kernel
theorem dX9_alter_35 : decode cX9_alter 35 = .ok (.iload_n 2, 1) := by decide +kernel
theorem dX9_alter_36 : decode cX9_alter 36 = .ok (.iadd, 1) := by decide +kernel
theorem dX9_alter_37 : decode cX9_alter 37 = .ok (.iaload, 1) := by decide +kernel
theorem dX9_alter_38 : decode cX9_alter 38 = .ok (.istore 4, 2) := by decide +kernel
theorem dX9_alter_40 : decode cX9_alter 40 = .ok (.aload_n 0, 1) := by decide +kernel
theorem dX9_alter_41 : decode cX9_alter 41 = .ok (.getfield 98, 3) := by decide +kernel
theorem dX9_alter_44 : decode cX9_alter 44 = .ok (.iconst 3, 1) := by decide +kernel
theorem dX9_alter_45 : decode cX9_alter 45 = .ok (.iload_n 1, 1) := by decide +kernel
theorem dX9_alter_46 : decode cX9_alter 46 = .ok (.imul, 1) := by decide +kernel
theorem dX9_alter_47 : decode cX9_alter 47 = .ok (.iload_n 2, 1) := by decide +kernel
theorem dX9_alter_48 : decode cX9_alter 48 = .ok (.iadd, 1) := by decide +kernel
theorem dX9_alter_49 : decode cX9_alter 49 = .ok (.iload_n 3, 1) := by decide +kernel
theorem dX9_alter_50 : decode cX9_alter 50 = .ok (.iastore, 1) := by decide +kernel
theorem dX9_alter_51 : decode cX9_alter 51 = .ok (.iload 4, 2) := by decide +kernel
theorem dX9_alter_53 : decode cX9_alter 53 = .ok (.ireturn, 1) := by decide +kernel
theorem dX9_drop_0 : decode cX9_drop 0 = .ok (.aload_n 0, 1) := by decide +kernel
theorem dX9_drop_1 : decode cX9_drop 1 = .ok (.getfield 347, 3) := by decide +kernel
theorem dX9_drop_4 : decode cX9_drop 4 = .ok (.ifCond .ne 6, 3) := by decide +kernel
theorem dX9_drop_7 : decode cX9_drop 7 = .ok (.bipush (-3), 2) := by decide +kernel
theorem dX9_drop_9 : decode cX9_drop 9 = .ok (.ireturn, 1) := by decide +kernel
theorem dX9_drop_10 : decode cX9_drop 10 = .ok (.aload_n 0, 1) := by decide +kernel
theorem dX9_drop_11 : decode cX9_drop 11 = .ok (.dup, 1) := by decide +kernel
theorem dX9_drop_12 : decode cX9_drop 12 = .ok (.getfield 347, 3) := by decide +kernel
theorem dX9_drop_15 : decode cX9_drop 15 = .ok (.iconst 1, 1) := by decide +kernel
theorem dX9_drop_16 : decode cX9_drop 16 = .ok (.isub, 1) := by decide +kernel
theorem dX9_drop_17 : decode cX9_drop 17 = .ok (.putfield 347, 3) := by decide +kernel
theorem dX9_drop_20 : decode cX9_drop 20 = .ok (.aload_n 0, 1) := by decide +kernel
theorem dX9_drop_21 : decode cX9_drop 21 = .ok (.getfield 347, 3) := by decide +kernel
theorem dX9_drop_24 : decode cX9_drop 24 = .ok (.ireturn, 1) := by decide +kernel
theorem dX9_check_0 : decode cX9_check 0 = .ok (.aload_n 0, 1) := by decide +kernel
theorem dX9_check_1 : decode cX9_check 1 = .ok (.getfield 343, 3) := by decide +kernel
theorem dX9_check_4 : decode cX9_check 4 = .ok (.ifCond .ne 6, 3) := by decide +kernel
theorem dX9_check_7 : decode cX9_check 7 = .ok (.bipush (-3), 2) := by decide +kernel
theorem dX9_check_9 : decode cX9_check 9 = .ok (.ireturn, 1) := by decide +kernel
theorem dX9_check_10 : decode cX9_check 10 = .ok (.iconst 0, 1) := by decide +kernel
theorem dX9_check_11 : decode cX9_check 11 = .ok (.istore_n 1, 1) := by decide +kernel
theorem dX9_check_12 : decode cX9_check 12 = .ok (.iload_n 1, 1) := by decide +kernel
theorem dX9_check_13 : decode cX9_check 13 = .ok (.aload_n 0, 1) := by decide +kernel
theorem dX9_check_14 : decode cX9_check 14 = .ok (.getfield 347, 3) := by decide +kernel
theorem dX9_check_17 : decode cX9_check 17 = .ok (.if_icmp .ge 47, 3) := by decide +kernel
theorem dX9_check_20 : decode cX9_check 20 = .ok (.iconst 0, 1) := by decide +kernel
theorem dX9_check_21 : decode cX9_check 21 = .ok (.istore_n 2, 1) := by decide +kernel
theorem dX9_check_22 : decode cX9_check 22 = .ok (.iload_n 2, 1) := by decide +kernel
theorem dX9_check_23 : decode cX9_check 23 = .ok (.iconst 3, 1) := by decide +kernel
theorem dX9_check_24 : decode cX9_check 24 = .ok (.if_icmp .ge 34, 3) := by decide +kernel
theorem dX9_check_27 : decode cX9_check 27 = .ok (.aload_n 0, 1) := by decide +kernel
theorem dX9_check_28 : decode cX9_check 28 = .ok (.getfield 98, 3) := by decide +kernel
theorem dX9_check_31 : decode cX9_check 31 = .ok (.iconst 3, 1) := by decide +kernel
theorem dX9_check_32 : decode cX9_check 32 = .ok (.iload_n 1, 1) := by decide +kernel
theorem dX9_check_33 : decode cX9_check 33 = .ok (.imul, 1) := by decide +kernel
theorem dX9_check_34 : decode cX9_check 34 = .ok (.iload_n 2, 1) := by decide +kernel
theorem dX9_check_35 : decode cX9_check 35 = .ok (.iadd, 1) := by decide +kernel
theorem dX9_check_36 : decode cX9_check 36 = .ok (.iaload, 1) := by decide +kernel
theorem dX9_check_37 : decode cX9_check 37 = .ok (.aload_n 0, 1) := by decide +kernel
theorem dX9_check_38 : decode cX9_check 38 = .ok (.getfield 95, 3) := by decide +kernel
theorem dX9_check_41 : decode cX9_check 41 = .ok (.iconst 3, 1) := by decide +kernel
theorem dX9_check_42 : decode cX9_check 42 = .ok (.iload_n 1, 1) := by decide +kernel
theorem dX9_check_43 : decode cX9_check 43 = .ok (.imul, 1) := by decide +kernel
theorem dX9_check_44 : decode cX9_check 44 = .ok (.iload_n 2, 1) := by decide +kernel
theorem dX9_check_45 : decode cX9_check 45 = .ok (.iadd, 1) := by decide +kernel
theorem dX9_check_46 : decode cX9_check 46 = .ok (.iaload, 1) := by decide +kernel
theorem dX9_check_47 : decode cX9_check 47 = .ok (.if_icmp .eq 5, 3) := by decide +kernel
theorem dX9_check_50 : decode cX9_check 50 = .ok (.iload_n 1, 1) := by decide +kernel
theorem dX9_check_51 : decode cX9_check 51 = .ok (.ireturn, 1) := by decide +kernel
theorem dX9_check_52 : decode cX9_check 52 = .ok (.iinc 2 1, 3) := by decide +kernel
theorem dX9_check_55 : decode cX9_check 55 = .ok (.goto (-33), 3) := by decide +kernel
theorem dX9_check_58 : decode cX9_check 58 = .ok (.iinc 1 1, 3) := by decide +kernel
theorem dX9_check_61 : decode cX9_check 61 = .ok (.goto (-49), 3) := by decide +kernel
theorem dX9_check_64 : decode cX9_check 64 = .ok (.aload_n 0, 1) := by decide +kernel
theorem dX9_check_65 : decode cX9_check 65 = .ok (.getfield 347, 3) := by decide +kernel
theorem dX9_check_68 : decode cX9_check 68 = .ok (.aload_n 0, 1) := by decide +kernel
theorem dX9_check_69 : decode cX9_check 69 = .ok (.getfield 340, 3) := by decide +kernel
theorem dX9_check_72 : decode cX9_check 72 = .ok (.if_icmp .ge 10, 3) := by decide +kernel
theorem dX9_check_75 : decode cX9_check 75 = .ok (.aload_n 0, 1) := by decide +kernel
theorem dX9_check_76 : decode cX9_check 76 = .ok (.getfield 347, 3) := by decide +kernel
theorem dX9_check_79 : decode cX9_check 79 = .ok (.goto 4, 3) := by decide +kernel
theorem dX9_check_82 : decode cX9_check 82 = .ok (.iconst (-1), 1) := by decide +kernel
theorem dX9_check_83 : decode cX9_check 83 = .ok (.ireturn, 1) := by decide +kernel
theorem dX9_permitsThat_0 : decode cX9_permitsThat 0 = .ok (.iconst 0, 1) := by decide +kernel
theorem dX9_permitsThat_1 : decode cX9_permitsThat 1 = .ok (.istore_n 2, 1) := by decide +kernel
theorem dX9_permitsThat_2 : decode cX9_permitsThat 2 = .ok (.iconst 0, 1) := by decide +kernel
theorem dX9_permitsThat_3 : decode cX9_permitsThat 3 = .ok (.istore_n 3, 1) := by decide +kernel
theorem dX9_permitsThat_4 : decode cX9_permitsThat 4 = .ok (.iload_n 3, 1) := by decide +kernel
theorem dX9_permitsThat_5 : decode cX9_permitsThat 5 = .ok (.aload_n 0, 1) := by decide +kernel
theorem dX9_permitsThat_6 : decode cX9_permitsThat 6 = .ok (.getfield 113, 3) := by decide +kernel
theorem dX9_permitsThat_9 : decode cX9_permitsThat 9 = .ok (.if_icmp .ge 27, 3) := by decide +kernel
theorem dX9_permitsThat_12 : decode cX9_permitsThat 12 = .ok (.iload_n 2, 1) := by decide +kernel
theorem dX9_permitsThat_13 : decode cX9_permitsThat 13 = .ok (.aload_n 0, 1) := by decide +kernel
theorem dX9_permitsThat_14 : decode cX9_permitsThat 14 = .ok (.getfield 62, 3) := by decide +kernel
theorem dX9_permitsThat_17 : decode cX9_permitsThat 17 = .ok (.iload_n 3, 1) := by decide +kernel
theorem dX9_permitsThat_18 : decode cX9_permitsThat 18 = .ok (.iaload, 1) := by decide +kernel
theorem dX9_permitsThat_19 : decode cX9_permitsThat 19 = .ok (.iload_n 1, 1) := by decide +kernel
theorem dX9_permitsThat_20 : decode cX9_permitsThat 20 = .ok (.if_icmp .ne 7, 3) := by decide +kernel
theorem dX9_permitsThat_23 : decode cX9_permitsThat 23 = .ok (.iconst 1, 1) := by decide +kernel
theorem dX9_permitsThat_24 : decode cX9_permitsThat 24 = .ok (.goto 4, 3) := by decide +kernel
theorem dX9_permitsThat_27 : decode cX9_permitsThat 27 = .ok (.iconst 0, 1) := by decide +kernel
theorem dX9_permitsThat_28 : decode cX9_permitsThat 28 = .ok (.iadd, 1) := by decide +kernel
theorem dX9_permitsThat_29 : decode cX9_permitsThat 29 = .ok (.istore_n 2, 1) := by decide +kernel
theorem dX9_permitsThat_30 : decode cX9_permitsThat 30 = .ok (.iinc 3 1, 3) := by decide +kernel
theorem dX9_permitsThat_33 : decode cX9_permitsThat 33 = .ok (.goto (-29), 3) := by decide +kernel
theorem dX9_permitsThat_36 : decode cX9_permitsThat 36 = .ok (.iload_n 2, 1) := by decide +kernel
theorem dX9_permitsThat_37 : decode cX9_permitsThat 37 = .ok (.ireturn, 1) := by decide +kernel
theorem dX9_men_0 : decode cX9_men 0 = .ok (.iconst 0, 1) := by decide +kernel
theorem dX9_men_1 : decode cX9_men 1 = .ok (.istore_n 2, 1) := by decide +kernel
theorem dX9_men_2 : decode cX9_men 2 = .ok (.iconst 0, 1) := by decide +kernel
theorem dX9_men_3 : decode cX9_men 3 = .ok (.istore_n 3, 1) := by decide +kernel
theorem dX9_men_4 : decode cX9_men 4 = .ok (.iload_n 3, 1) := by decide +kernel
theorem dX9_men_5 : decode cX9_men 5 = .ok (.bipush 8, 2) := by decide +kernel
theorem dX9_men_7 : decode cX9_men 7 = .ok (.if_icmp .ge 59, 3) := by decide +kernel
theorem dX9_men_10 : decode cX9_men 10 = .ok (.iload_n 1, 1) := by decide +kernel
theorem dX9_men_11 : decode cX9_men 11 = .ok (.ifCond .eq 20, 3) := by decide +kernel
theorem dX9_men_14 : decode cX9_men 14 = .ok (.aload_n 0, 1) := by decide +kernel
theorem dX9_men_15 : decode cX9_men 15 = .ok (.getfield 50, 3) := by decide +kernel
theorem dX9_men_18 : decode cX9_men 18 = .ok (.iload_n 3, 1) := by decide +kernel
theorem dX9_men_19 : decode cX9_men 19 = .ok (.iaload, 1) := by decide +kernel
theorem dX9_men_20 : decode cX9_men 20 = .ok (.ifCond .lt 7, 3) := by decide +kernel
theorem dX9_men_23 : decode cX9_men 23 = .ok (.iconst 1, 1) := by decide +kernel
theorem dX9_men_24 : decode cX9_men 24 = .ok (.goto 21, 3) := by decide +kernel
theorem dX9_men_27 : decode cX9_men 27 = .ok (.iconst 0, 1) := by decide +kernel
theorem dX9_men_28 : decode cX9_men 28 = .ok (.goto 17, 3) := by decide +kernel
theorem dX9_men_31 : decode cX9_men 31 = .ok (.aload_n 0, 1) := by decide +kernel
theorem dX9_men_32 : decode cX9_men 32 = .ok (.getfield 47, 3) := by decide +kernel
theorem dX9_men_35 : decode cX9_men 35 = .ok (.iload_n 3, 1) := by decide +kernel
theorem dX9_men_36 : decode cX9_men 36 = .ok (.baload, 1) := by decide +kernel
theorem dX9_men_37 : decode cX9_men 37 = .ok (.ifCond .ne 7, 3) := by decide +kernel
theorem dX9_men_40 : decode cX9_men 40 = .ok (.iconst 1, 1) := by decide +kernel
theorem dX9_men_41 : decode cX9_men 41 = .ok (.goto 4, 3) := by decide +kernel
theorem dX9_men_44 : decode cX9_men 44 = .ok (.iconst 0, 1) := by decide +kernel
theorem dX9_men_45 : decode cX9_men 45 = .ok (.istore 4, 2) := by decide +kernel
theorem dX9_men_47 : decode cX9_men 47 = .ok (.iload_n 2, 1) := by decide +kernel
theorem dX9_men_48 : decode cX9_men 48 = .ok (.iload 4, 2) := by decide +kernel
theorem dX9_men_50 : decode cX9_men 50 = .ok (.ifCond .eq 7, 3) := by decide +kernel
theorem dX9_men_53 : decode cX9_men 53 = .ok (.iconst 1, 1) := by decide +kernel
theorem dX9_men_54 : decode cX9_men 54 = .ok (.goto 4, 3) := by decide +kernel
theorem dX9_men_57 : decode cX9_men 57 = .ok (.iconst 0, 1) := by decide +kernel
theorem dX9_men_58 : decode cX9_men 58 = .ok (.iadd, 1) := by decide +kernel
theorem dX9_men_59 : decode cX9_men 59 = .ok (.istore_n 2, 1) := by decide +kernel
theorem dX9_men_60 : decode cX9_men 60 = .ok (.iinc 3 1, 3) := by decide +kernel
theorem dX9_men_63 : decode cX9_men 63 = .ok (.goto (-59), 3) := by decide +kernel
theorem dX9_men_66 : decode cX9_men 66 = .ok (.iload_n 2, 1) := by decide +kernel
theorem dX9_men_67 : decode cX9_men 67 = .ok (.ireturn, 1) := by decide +kernel
theorem dX9_allLocks_0 : decode cX9_allLocks 0 = .ok (.iconst 0, 1) := by decide +kernel
theorem dX9_allLocks_1 : decode cX9_allLocks 1 = .ok (.istore_n 1, 1) := by decide +kernel
theorem dX9_allLocks_2 : decode cX9_allLocks 2 = .ok (.iconst 0, 1) := by decide +kernel
theorem dX9_allLocks_3 : decode cX9_allLocks 3 = .ok (.istore_n 2, 1) := by decide +kernel
theorem dX9_allLocks_4 : decode cX9_allLocks 4 = .ok (.iload_n 2, 1) := by decide +kernel
theorem dX9_allLocks_5 : decode cX9_allLocks 5 = .ok (.aload_n 0, 1) := by decide +kernel
theorem dX9_allLocks_6 : decode cX9_allLocks 6 = .ok (.getfield 101, 3) := by decide +kernel
theorem dX9_allLocks_9 : decode cX9_allLocks 9 = .ok (.if_icmp .ge 17, 3) := by decide +kernel
theorem dX9_allLocks_12 : decode cX9_allLocks 12 = .ok (.iload_n 1, 1) := by decide +kernel
theorem dX9_allLocks_13 : decode cX9_allLocks 13 = .ok (.aload_n 0, 1) := by decide +kernel
theorem dX9_allLocks_14 : decode cX9_allLocks 14 = .ok (.iload_n 2, 1) := by decide +kernel
theorem dX9_allLocks_15 : decode cX9_allLocks 15 = .ok (.invokevirtual 129, 3) := by decide +kernel
theorem dX9_allLocks_18 : decode cX9_allLocks 18 = .ok (.iadd, 1) := by decide +kernel
theorem dX9_allLocks_19 : decode cX9_allLocks 19 = .ok (.istore_n 1, 1) := by decide +kernel
theorem dX9_allLocks_20 : decode cX9_allLocks 20 = .ok (.iinc 2 1, 3) := by decide +kernel
theorem dX9_allLocks_23 : decode cX9_allLocks 23 = .ok (.goto (-19), 3) := by decide +kernel
theorem dX9_allLocks_26 : decode cX9_allLocks 26 = .ok (.iload_n 1, 1) := by decide +kernel
theorem dX9_allLocks_27 : decode cX9_allLocks 27 = .ok (.ireturn, 1) := by decide +kernel
theorem dX9_many_0 : decode cX9_many 0 = .ok (.iload_n 1, 1) := by decide +kernel
theorem dX9_many_1 : decode cX9_many 1 = .ok (.tableswitch 120 0 10 #[59, 64, 69, 74, 79, 85, 93, 99, 105, 110, 115], 59) := by decide +kernel
theorem dX9_many_60 : decode cX9_many 60 = .ok (.aload_n 0, 1) := by decide +kernel
theorem dX9_many_61 : decode cX9_many 61 = .ok (.getfield 119, 3) := by decide +kernel
theorem dX9_many_64 : decode cX9_many 64 = .ok (.ireturn, 1) := by decide +kernel
theorem dX9_many_65 : decode cX9_many 65 = .ok (.aload_n 0, 1) := by decide +kernel
theorem dX9_many_66 : decode cX9_many 66 = .ok (.getfield 101, 3) := by decide +kernel
theorem dX9_many_69 : decode cX9_many 69 = .ok (.ireturn, 1) := by decide +kernel
theorem dX9_many_70 : decode cX9_many 70 = .ok (.aload_n 0, 1) := by decide +kernel
theorem dX9_many_71 : decode cX9_many 71 = .ok (.getfield 140, 3) := by decide +kernel
theorem dX9_many_74 : decode cX9_many 74 = .ok (.ireturn, 1) := by decide +kernel
theorem dX9_many_75 : decode cX9_many 75 = .ok (.aload_n 0, 1) := by decide +kernel
theorem dX9_many_76 : decode cX9_many 76 = .ok (.getfield 113, 3) := by decide +kernel
theorem dX9_many_79 : decode cX9_many 79 = .ok (.ireturn, 1) := by decide +kernel
theorem dX9_many_80 : decode cX9_many 80 = .ok (.aload_n 0, 1) := by decide +kernel
theorem dX9_many_81 : decode cX9_many 81 = .ok (.iconst 3, 1) := by decide +kernel
theorem dX9_many_82 : decode cX9_many 82 = .ok (.invokevirtual 350, 3) := by decide +kernel
theorem dX9_many_85 : decode cX9_many 85 = .ok (.ireturn, 1) := by decide +kernel
theorem dX9_many_86 : decode cX9_many 86 = .ok (.aload_n 0, 1) := by decide +kernel
theorem dX9_many_87 : decode cX9_many 87 = .ok (.invokevirtual 133, 3) := by decide +kernel
theorem dX9_many_90 : decode cX9_many 90 = .ok (.invokestatic 303, 3) := by decide +kernel
theorem dX9_many_93 : decode cX9_many 93 = .ok (.ireturn, 1) := by decide +kernel
theorem dX9_many_94 : decode cX9_many 94 = .ok (.aload_n 0, 1) := by decide +kernel
theorem dX9_many_95 : decode cX9_many 95 = .ok (.iconst 1, 1) := by decide +kernel
theorem dX9_many_96 : decode cX9_many 96 = .ok (.invokevirtual 353, 3) := by decide +kernel
theorem dX9_many_99 : decode cX9_many 99 = .ok (.ireturn, 1) := by decide +kernel
theorem dX9_many_100 : decode cX9_many 100 = .ok (.aload_n 0, 1) := by decide +kernel
theorem dX9_many_101 : decode cX9_many 101 = .ok (.iconst 0, 1) := by decide +kernel
theorem dX9_many_102 : decode cX9_many 102 = .ok (.invokevirtual 353, 3) := by decide +kernel
theorem dX9_many_105 : decode cX9_many 105 = .ok (.ireturn, 1) := by decide +kernel
theorem dX9_many_106 : decode cX9_many 106 = .ok (.aload_n 0, 1) := by decide +kernel
theorem dX9_many_107 : decode cX9_many 107 = .ok (.getfield 168, 3) := by decide +kernel
theorem dX9_many_110 : decode cX9_many 110 = .ok (.ireturn, 1) := by decide +kernel
theorem dX9_many_111 : decode cX9_many 111 = .ok (.aload_n 0, 1) := by decide +kernel
theorem dX9_many_112 : decode cX9_many 112 = .ok (.getfield 347, 3) := by decide +kernel
theorem dX9_many_115 : decode cX9_many 115 = .ok (.ireturn, 1) := by decide +kernel
theorem dX9_many_116 : decode cX9_many 116 = .ok (.aload_n 0, 1) := by decide +kernel
theorem dX9_many_117 : decode cX9_many 117 = .ok (.invokevirtual 357, 3) := by decide +kernel
theorem dX9_many_120 : decode cX9_many 120 = .ok (.ireturn, 1) := by decide +kernel
theorem dX9_many_121 : decode cX9_many 121 = .ok (.iconst (-1), 1) := by decide +kernel
theorem dX9_many_122 : decode cX9_many 122 = .ok (.ireturn, 1) := by decide +kernel
