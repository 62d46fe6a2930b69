theorem dX6_write_60 : decode cX6_write 60 = .ok (.aload_n 0, 1) := by decide +kernel
theorem dX6_write_61 : decode cX6_write 61 = .ok (.dup, 1) := by decide +kernel
theorem dX6_write_62 : decode cX6_write 62 = .ok (.getfield 30, 3) := by decide +kernel
theorem dX6_write_65 : decode cX6_write 65 = .ok (.iconst 1, 1) := by decide +kernel
theorem dX6_write_66 : decode cX6_write 66 = .ok (.iadd, 1) := by decide +kernel
theorem dX6_write_67 : decode cX6_write 67 = .ok (.putfield 30, 3) := by decide +kernel
theorem dX6_write_70 : decode cX6_write 70 = .ok (.iload_n 3, 1) := by decide +kernel
theorem dX6_write_71 : decode cX6_write 71 = .ok (.ireturn, 1) := by decide +kernel
theorem dX6_has_0 : decode cX6_has 0 = .ok (.iload_n 1, 1) := by decide +kernel
theorem dX6_has_1 : decode cX6_has 1 = .ok (.ifCond .lt 15, 3) := by decide +kernel
theorem dX6_has_4 : decode cX6_has 4 = .ok (.iload_n 1, 1) := by decide +kernel
theorem dX6_has_5 : decode cX6_has 5 = .ok (.aload_n 0, 1) := by decide +kernel
theorem dX6_has_6 : decode cX6_has 6 = .ok (.getfield 30, 3) := by decide +kernel
theorem dX6_has_9 : decode cX6_has 9 = .ok (.if_icmp .ge 7, 3) := by decide +kernel
theorem dX6_has_12 : decode cX6_has 12 = .ok (.iconst 1, 1) := by decide +kernel
theorem dX6_has_13 : decode cX6_has 13 = .ok (.goto 4, 3) := by decide +kernel
theorem dX6_has_16 : decode cX6_has 16 = .ok (.iconst 0, 1) := by decide +kernel
theorem dX6_has_17 : decode cX6_has 17 = .ok (.ireturn, 1) := by decide +kernel
theorem dX6_inForce_0 : decode cX6_inForce 0 = .ok (.aload_n 0, 1) := by decide +kernel
theorem dX6_inForce_1 : decode cX6_inForce 1 = .ok (.getfield 24, 3) := by decide +kernel
theorem dX6_inForce_4 : decode cX6_inForce 4 = .ok (.iload_n 1, 1) := by decide +kernel
theorem dX6_inForce_5 : decode cX6_inForce 5 = .ok (.iaload, 1) := by decide +kernel
theorem dX6_inForce_6 : decode cX6_inForce 6 = .ok (.iload_n 2, 1) := by decide +kernel
theorem dX6_inForce_7 : decode cX6_inForce 7 = .ok (.if_icmp .gt 28, 3) := by decide +kernel
theorem dX6_inForce_10 : decode cX6_inForce 10 = .ok (.aload_n 0, 1) := by decide +kernel
theorem dX6_inForce_11 : decode cX6_inForce 11 = .ok (.getfield 27, 3) := by decide +kernel
theorem dX6_inForce_14 : decode cX6_inForce 14 = .ok (.iload_n 1, 1) := by decide +kernel
theorem dX6_inForce_15 : decode cX6_inForce 15 = .ok (.iaload, 1) := by decide +kernel
theorem dX6_inForce_16 : decode cX6_inForce 16 = .ok (.bipush (-3), 2) := by decide +kernel
theorem dX6_inForce_18 : decode cX6_inForce 18 = .ok (.if_icmp .eq 13, 3) := by decide +kernel
theorem dX6_inForce_21 : decode cX6_inForce 21 = .ok (.iload_n 2, 1) := by decide +kernel
theorem dX6_inForce_22 : decode cX6_inForce 22 = .ok (.aload_n 0, 1) := by decide +kernel
theorem dX6_inForce_23 : decode cX6_inForce 23 = .ok (.getfield 27, 3) := by decide +kernel
theorem dX6_inForce_26 : decode cX6_inForce 26 = .ok (.iload_n 1, 1) := by decide +kernel
theorem dX6_inForce_27 : decode cX6_inForce 27 = .ok (.iaload, 1) := by decide +kernel
theorem dX6_inForce_28 : decode cX6_inForce 28 = .ok (.if_icmp .ge 7, 3) := by decide +kernel
theorem dX6_inForce_31 : decode cX6_inForce 31 = .ok (.iconst 1, 1) := by decide +kernel
theorem dX6_inForce_32 : decode cX6_inForce 32 = .ok (.goto 4, 3) := by decide +kernel
theorem dX6_inForce_35 : decode cX6_inForce 35 = .ok (.iconst 0, 1) := by decide +kernel
theorem dX6_inForce_36 : decode cX6_inForce 36 = .ok (.ireturn, 1) := by decide +kernel
theorem dX6_speaksOf_0 : decode cX6_speaksOf 0 = .ok (.aload_n 0, 1) := by decide +kernel
theorem dX6_speaksOf_1 : decode cX6_speaksOf 1 = .ok (.getfield 9, 3) := by decide +kernel
theorem dX6_speaksOf_4 : decode cX6_speaksOf 4 = .ok (.iload_n 1, 1) := by decide +kernel
theorem dX6_speaksOf_5 : decode cX6_speaksOf 5 = .ok (.iaload, 1) := by decide +kernel
theorem dX6_speaksOf_6 : decode cX6_speaksOf 6 = .ok (.iload_n 2, 1) := by decide +kernel
theorem dX6_speaksOf_7 : decode cX6_speaksOf 7 = .ok (.if_icmp .ne 27, 3) := by decide +kernel
theorem dX6_speaksOf_10 : decode cX6_speaksOf 10 = .ok (.aload_n 0, 1) := by decide +kernel
theorem dX6_speaksOf_11 : decode cX6_speaksOf 11 = .ok (.getfield 15, 3) := by decide +kernel
theorem dX6_speaksOf_14 : decode cX6_speaksOf 14 = .ok (.iload_n 1, 1) := by decide +kernel
theorem dX6_speaksOf_15 : decode cX6_speaksOf 15 = .ok (.iaload, 1) := by decide +kernel
theorem dX6_speaksOf_16 : decode cX6_speaksOf 16 = .ok (.iload_n 3, 1) := by decide +kernel
theorem dX6_speaksOf_17 : decode cX6_speaksOf 17 = .ok (.if_icmp .ne 17, 3) := by decide +kernel
theorem dX6_speaksOf_20 : decode cX6_speaksOf 20 = .ok (.aload_n 0, 1) := by decide +kernel
theorem dX6_speaksOf_21 : decode cX6_speaksOf 21 = .ok (.iload_n 1, 1) := by decide +kernel
theorem dX6_speaksOf_22 : decode cX6_speaksOf 22 = .ok (.iload 4, 2) := by decide +kernel
theorem dX6_speaksOf_24 : decode cX6_speaksOf 24 = .ok (.invokevirtual 44, 3) := by decide +kernel
theorem dX6_speaksOf_27 : decode cX6_speaksOf 27 = .ok (.ifCond .eq 7, 3) := by decide +kernel
theorem dX6_speaksOf_30 : decode cX6_speaksOf 30 = .ok (.iconst 1, 1) := by decide +kernel
theorem dX6_speaksOf_31 : decode cX6_speaksOf 31 = .ok (.goto 4, 3) := by decide +kernel
theorem dX6_speaksOf_34 : decode cX6_speaksOf 34 = .ok (.iconst 0, 1) := by decide +kernel
theorem dX6_speaksOf_35 : decode cX6_speaksOf 35 = .ok (.ireturn, 1) := by decide +kernel
theorem dX6_doubledAt_0 : decode cX6_doubledAt 0 = .ok (.iconst 0, 1) := by decide +kernel
theorem dX6_doubledAt_1 : decode cX6_doubledAt 1 = .ok (.istore_n 2, 1) := by decide +kernel
theorem dX6_doubledAt_2 : decode cX6_doubledAt 2 = .ok (.iconst 0, 1) := by decide +kernel
theorem dX6_doubledAt_3 : decode cX6_doubledAt 3 = .ok (.istore_n 3, 1) := by decide +kernel
theorem dX6_doubledAt_4 : decode cX6_doubledAt 4 = .ok (.iload_n 3, 1) := by decide +kernel
theorem dX6_doubledAt_5 : decode cX6_doubledAt 5 = .ok (.aload_n 0, 1) := by decide +kernel
theorem dX6_doubledAt_6 : decode cX6_doubledAt 6 = .ok (.getfield 30, 3) := by decide +kernel
theorem dX6_doubledAt_9 : decode cX6_doubledAt 9 = .ok (.if_icmp .ge 43, 3) := by decide +kernel
theorem dX6_doubledAt_12 : decode cX6_doubledAt 12 = .ok (.iload_n 2, 1) := by decide +kernel
theorem dX6_doubledAt_13 : decode cX6_doubledAt 13 = .ok (.aload_n 0, 1) := by decide +kernel
theorem dX6_doubledAt_14 : decode cX6_doubledAt 14 = .ok (.getfield 9, 3) := by decide +kernel
theorem dX6_doubledAt_17 : decode cX6_doubledAt 17 = .ok (.iload_n 3, 1) := by decide +kernel
theorem dX6_doubledAt_18 : decode cX6_doubledAt 18 = .ok (.iaload, 1) := by decide +kernel
theorem dX6_doubledAt_19 : decode cX6_doubledAt 19 = .ok (.iconst 2, 1) := by decide +kernel
theorem dX6_doubledAt_20 : decode cX6_doubledAt 20 = .ok (.if_icmp .ne 23, 3) := by decide +kernel
theorem dX6_doubledAt_23 : decode cX6_doubledAt 23 = .ok (.aload_n 0, 1) := by decide +kernel
theorem dX6_doubledAt_24 : decode cX6_doubledAt 24 = .ok (.iload_n 3, 1) := by decide +kernel
theorem dX6_doubledAt_25 : decode cX6_doubledAt 25 = .ok (.iload_n 1, 1) := by decide +kernel
theorem dX6_doubledAt_26 : decode cX6_doubledAt 26 = .ok (.invokevirtual 44, 3) := by decide +kernel
theorem dX6_doubledAt_29 : decode cX6_doubledAt 29 = .ok (.ifCond .eq 14, 3) := by decide +kernel
theorem dX6_doubledAt_32 : decode cX6_doubledAt 32 = .ok (.iconst 1, 1) := by decide +kernel
theorem dX6_doubledAt_33 : decode cX6_doubledAt 33 = .ok (.aload_n 0, 1) := by decide +kernel
theorem dX6_doubledAt_34 : decode cX6_doubledAt 34 = .ok (.getfield 15, 3) := by decide +kernel
theorem dX6_doubledAt_37 : decode cX6_doubledAt 37 = .ok (.iload_n 3, 1) := by decide +kernel
theorem dX6_doubledAt_38 : decode cX6_doubledAt 38 = .ok (.iaload, 1) := by decide +kernel
theorem dX6_doubledAt_39 : decode cX6_doubledAt 39 = .ok (.ishl, 1) := by decide +kernel
theorem dX6_doubledAt_40 : decode cX6_doubledAt 40 = .ok (.goto 4, 3) := by decide +kernel
theorem dX6_doubledAt_43 : decode cX6_doubledAt 43 = .ok (.iconst 0, 1) := by decide +kernel
theorem dX6_doubledAt_44 : decode cX6_doubledAt 44 = .ok (.ior, 1) := by decide +kernel
theorem dX6_doubledAt_45 : decode cX6_doubledAt 45 = .ok (.istore_n 2, 1) := by decide +kernel
theorem dX6_doubledAt_46 : decode cX6_doubledAt 46 = .ok (.iinc 3 1, 3) := by decide +kernel
theorem dX6_doubledAt_49 : decode cX6_doubledAt 49 = .ok (.goto (-45), 3) := by decide +kernel
theorem dX6_doubledAt_52 : decode cX6_doubledAt 52 = .ok (.iload_n 2, 1) := by decide +kernel
theorem dX6_doubledAt_53 : decode cX6_doubledAt 53 = .ok (.ireturn, 1) := by decide +kernel
theorem dX6_barsBoth_0 : decode cX6_barsBoth 0 = .ok (.iload_n 3, 1) := by decide +kernel
theorem dX6_barsBoth_1 : decode cX6_barsBoth 1 = .ok (.bipush (-3), 2) := by decide +kernel
theorem dX6_barsBoth_3 : decode cX6_barsBoth 3 = .ok (.if_icmp .ne 5, 3) := by decide +kernel
theorem dX6_barsBoth_6 : decode cX6_barsBoth 6 = .ok (.iconst 0, 1) := by decide +kernel
theorem dX6_barsBoth_7 : decode cX6_barsBoth 7 = .ok (.ireturn, 1) := by decide +kernel
theorem dX6_barsBoth_8 : decode cX6_barsBoth 8 = .ok (.iconst 0, 1) := by decide +kernel
theorem dX6_barsBoth_9 : decode cX6_barsBoth 9 = .ok (.istore 5, 2) := by decide +kernel
theorem dX6_barsBoth_11 : decode cX6_barsBoth 11 = .ok (.iload 5, 2) := by decide +kernel
theorem dX6_barsBoth_13 : decode cX6_barsBoth 13 = .ok (.aload_n 0, 1) := by decide +kernel
theorem dX6_barsBoth_14 : decode cX6_barsBoth 14 = .ok (.getfield 30, 3) := by decide +kernel
theorem dX6_barsBoth_17 : decode cX6_barsBoth 17 = .ok (.if_icmp .ge 100, 3) := by decide +kernel
theorem dX6_barsBoth_20 : decode cX6_barsBoth 20 = .ok (.aload_n 0, 1) := by decide +kernel
theorem dX6_barsBoth_21 : decode cX6_barsBoth 21 = .ok (.getfield 15, 3) := by decide +kernel
theorem dX6_barsBoth_24 : decode cX6_barsBoth 24 = .ok (.iload 5, 2) := by decide +kernel
theorem dX6_barsBoth_26 : decode cX6_barsBoth 26 = .ok (.iaload, 1) := by decide +kernel
theorem dX6_barsBoth_27 : decode cX6_barsBoth 27 = .ok (.iload_n 1, 1) := by decide +kernel
theorem dX6_barsBoth_28 : decode cX6_barsBoth 28 = .ok (.if_icmp .ne 14, 3) := by decide +kernel
theorem dX6_barsBoth_31 : decode cX6_barsBoth 31 = .ok (.aload_n 0, 1) := by decide +kernel
theorem dX6_barsBoth_32 : decode cX6_barsBoth 32 = .ok (.getfield 18, 3) := by decide +kernel
theorem dX6_barsBoth_35 : decode cX6_barsBoth 35 = .ok (.iload 5, 2) := by decide +kernel
theorem dX6_barsBoth_37 : decode cX6_barsBoth 37 = .ok (.iaload, 1) := by decide +kernel
theorem dX6_barsBoth_38 : decode cX6_barsBoth 38 = .ok (.iload_n 2, 1) := by decide +kernel
theorem dX6_barsBoth_39 : decode cX6_barsBoth 39 = .ok (.if_icmp .eq 25, 3) := by decide +kernel
theorem dX6_barsBoth_42 : decode cX6_barsBoth 42 = .ok (.aload_n 0, 1) := by decide +kernel
theorem dX6_barsBoth_43 : decode cX6_barsBoth 43 = .ok (.getfield 15, 3) := by decide +kernel
theorem dX6_barsBoth_46 : decode cX6_barsBoth 46 = .ok (.iload 5, 2) := by decide +kernel
theorem dX6_barsBoth_48 : decode cX6_barsBoth 48 = .ok (.iaload, 1) := by decide +kernel
theorem dX6_barsBoth_49 : decode cX6_barsBoth 49 = .ok (.iload_n 2, 1) := by decide +kernel
theorem dX6_barsBoth_50 : decode cX6_barsBoth 50 = .ok (.if_icmp .ne 18, 3) := by decide +kernel
theorem dX6_barsBoth_53 : decode cX6_barsBoth 53 = .ok (.aload_n 0, 1) := by decide +kernel
theorem dX6_barsBoth_54 : decode cX6_barsBoth 54 = .ok (.getfield 18, 3) := by decide +kernel
theorem dX6_barsBoth_57 : decode cX6_barsBoth 57 = .ok (.iload 5, 2) := by decide +kernel
theorem dX6_barsBoth_59 : decode cX6_barsBoth 59 = .ok (.iaload, 1) := by decide +kernel
theorem dX6_barsBoth_60 : decode cX6_barsBoth 60 = .ok (.iload_n 1, 1) := by decide +kernel
theorem dX6_barsBoth_61 : decode cX6_barsBoth 61 = .ok (.if_icmp .ne 7, 3) := by decide +kernel
theorem dX6_barsBoth_64 : decode cX6_barsBoth 64 = .ok (.iconst 1, 1) := by decide +kernel
theorem dX6_barsBoth_65 : decode cX6_barsBoth 65 = .ok (.goto 4, 3) := by decide +kernel
theorem dX6_barsBoth_68 : decode cX6_barsBoth 68 = .ok (.iconst 0, 1) := by decide +kernel
theorem dX6_barsBoth_69 : decode cX6_barsBoth 69 = .ok (.istore 6, 2) := by decide +kernel
theorem dX6_barsBoth_71 : decode cX6_barsBoth 71 = .ok (.aload_n 0, 1) := by decide +kernel
theorem dX6_barsBoth_72 : decode cX6_barsBoth 72 = .ok (.getfield 9, 3) := by decide +kernel
theorem dX6_barsBoth_75 : decode cX6_barsBoth 75 = .ok (.iload 5, 2) := by decide +kernel
theorem dX6_barsBoth_77 : decode cX6_barsBoth 77 = .ok (.iaload, 1) := by decide +kernel
theorem dX6_barsBoth_78 : decode cX6_barsBoth 78 = .ok (.iconst 1, 1) := by decide +kernel
theorem dX6_barsBoth_79 : decode cX6_barsBoth 79 = .ok (.if_icmp .ne 32, 3) := by decide +kernel
theorem dX6_barsBoth_82 : decode cX6_barsBoth 82 = .ok (.iload 6, 2) := by decide +kernel
theorem dX6_barsBoth_84 : decode cX6_barsBoth 84 = .ok (.ifCond .eq 27, 3) := by decide +kernel
theorem dX6_barsBoth_87 : decode cX6_barsBoth 87 = .ok (.iload_n 3, 1) := by decide +kernel
theorem dX6_barsBoth_88 : decode cX6_barsBoth 88 = .ok (.aload_n 0, 1) := by decide +kernel
theorem dX6_barsBoth_89 : decode cX6_barsBoth 89 = .ok (.getfield 21, 3) := by decide +kernel
theorem dX6_barsBoth_92 : decode cX6_barsBoth 92 = .ok (.iload 5, 2) := by decide +kernel
theorem dX6_barsBoth_94 : decode cX6_barsBoth 94 = .ok (.iaload, 1) := by decide +kernel
theorem dX6_barsBoth_95 : decode cX6_barsBoth 95 = .ok (.if_icmp .gt 16, 3) := by decide +kernel
theorem dX6_barsBoth_98 : decode cX6_barsBoth 98 = .ok (.aload_n 0, 1) := by decide +kernel
theorem dX6_barsBoth_99 : decode cX6_barsBoth 99 = .ok (.iload 5, 2) := by decide +kernel
theorem dX6_barsBoth_101 : decode cX6_barsBoth 101 = .ok (.iload 4, 2) := by decide +kernel
theorem dX6_barsBoth_103 : decode cX6_barsBoth 103 = .ok (.invokevirtual 44, 3) := by decide +kernel
theorem dX6_barsBoth_106 : decode cX6_barsBoth 106 = .ok (.ifCond .eq 5, 3) := by decide +kernel
theorem dX6_barsBoth_109 : decode cX6_barsBoth 109 = .ok (.iconst 1, 1) := by decide +kernel
theorem dX6_barsBoth_110 : decode cX6_barsBoth 110 = .ok (.ireturn, 1) := by decide +kernel
theorem dX6_barsBoth_111 : decode cX6_barsBoth 111 = .ok (.iinc 5 1, 3) := by decide +kernel
theorem dX6_barsBoth_114 : decode cX6_barsBoth 114 = .ok (.goto (-103), 3) := by decide +kernel
theorem dX6_barsBoth_117 : decode cX6_barsBoth 117 = .ok (.iconst 0, 1) := by decide +kernel
theorem dX6_barsBoth_118 : decode cX6_barsBoth 118 = .ok (.ireturn, 1) := by decide +kernel
theorem dX7_init_0 : decode cX7_init 0 = .ok (.aload_n 0, 1) := by decide +kernel
theorem dX7_init_1 : decode cX7_init 1 = .ok (.invokespecial 3, 3) := by decide +kernel
theorem dX7_init_4 : decode cX7_init 4 = .ok (.aload_n 0, 1) := by decide +kernel
theorem dX7_init_5 : decode cX7_init 5 = .ok (.bipush 60, 2) := by decide +kernel
theorem dX7_init_7 : decode cX7_init 7 = .ok (.newarray .int, 2) := by decide +kernel
theorem dX7_init_9 : decode cX7_init 9 = .ok (.putfield 9, 3) := by decide +kernel
theorem dX7_init_12 : decode cX7_init 12 = .ok (.aload_n 0, 1) := by decide +kernel
theorem dX7_init_13 : decode cX7_init 13 = .ok (.iconst 0, 1) := by decide +kernel
theorem dX7_init_14 : decode cX7_init 14 = .ok (.putfield 15, 3) := by decide +kernel
theorem dX7_init_17 : decode cX7_init 17 = .ok (.aload_n 0, 1) := by decide +kernel
theorem dX7_init_18 : decode cX7_init 18 = .ok (.iconst 0, 1) := by decide +kernel
theorem dX7_init_19 : decode cX7_init 19 = .ok (.putfield 19, 3) := by decide +kernel
theorem dX7_init_22 : decode cX7_init 22 = .ok (.aload_n 0, 1) := by decide +kernel
theorem dX7_init_23 : decode cX7_init 23 = .ok (.iconst 0, 1) := by decide +kernel
theorem dX7_init_24 : decode cX7_init 24 = .ok (.putfield 22, 3) := by decide +kernel
theorem dX7_init_27 : decode cX7_init 27 = .ok (.aload_n 0, 1) := by decide +kernel
theorem dX7_init_28 : decode cX7_init 28 = .ok (.iconst 0, 1) := by decide +kernel
theorem dX7_init_29 : decode cX7_init 29 = .ok (.putfield 25, 3) := by decide +kernel
theorem dX7_init_32 : decode cX7_init 32 = .ok (.aload_n 0, 1) := by decide +kernel
theorem dX7_init_33 : decode cX7_init 33 = .ok (.iconst 0, 1) := by decide +kernel
theorem dX7_init_34 : decode cX7_init 34 = .ok (.putfield 28, 3) := by decide +kernel
theorem dX7_init_37 : decode cX7_init 37 = .ok (.aload_n 0, 1) := by decide +kernel
theorem dX7_init_38 : decode cX7_init 38 = .ok (.iconst 0, 1) := by decide +kernel
theorem dX7_init_39 : decode cX7_init 39 = .ok (.putfield 31, 3) := by decide +kernel
theorem dX7_init_42 : decode cX7_init 42 = .ok (.aload_n 0, 1) := by decide +kernel
theorem dX7_init_43 : decode cX7_init 43 = .ok (.iconst 0, 1) := by decide +kernel
theorem dX7_init_44 : decode cX7_init 44 = .ok (.putfield 34, 3) := by decide +kernel
theorem dX7_init_47 : decode cX7_init 47 = .ok (.aload_n 0, 1) := by decide +kernel
theorem dX7_init_48 : decode cX7_init 48 = .ok (.bipush (-3), 2) := by decide +kernel
theorem dX7_init_50 : decode cX7_init 50 = .ok (.putfield 37, 3) := by decide +kernel
theorem dX7_init_53 : decode cX7_init 53 = .ok (.return_, 1) := by decide +kernel
theorem dX7_takeBytes_0 : decode cX7_takeBytes 0 = .ok (.iconst 0, 1) := by decide +kernel
theorem dX7_takeBytes_1 : decode cX7_takeBytes 1 = .ok (.istore 4, 2) := by decide +kernel
theorem dX7_takeBytes_3 : decode cX7_takeBytes 3 = .ok (.iload 4, 2) := by decide +kernel
theorem dX7_takeBytes_5 : decode cX7_takeBytes 5 = .ok (.iload_n 3, 1) := by decide +kernel
theorem dX7_takeBytes_6 : decode cX7_takeBytes 6 = .ok (.if_icmp .ge 49, 3) := by decide +kernel
theorem dX7_takeBytes_9 : decode cX7_takeBytes 9 = .ok (.aload_n 0, 1) := by decide +kernel
theorem dX7_takeBytes_10 : decode cX7_takeBytes 10 = .ok (.getfield 15, 3) := by decide +kernel
theorem dX7_takeBytes_13 : decode cX7_takeBytes 13 = .ok (.bipush 60, 2) := by decide +kernel
theorem dX7_takeBytes_15 : decode cX7_takeBytes 15 = .ok (.if_icmp .ge 40, 3) := by decide +kernel
theorem dX7_takeBytes_18 : decode cX7_takeBytes 18 = .ok (.aload_n 0, 1) := by decide +kernel
theorem dX7_takeBytes_19 : decode cX7_takeBytes 19 = .ok (.getfield 9, 3) := by decide +kernel
theorem dX7_takeBytes_22 : decode cX7_takeBytes 22 = .ok (.aload_n 0, 1) := by decide +kernel
theorem dX7_takeBytes_23 : decode cX7_takeBytes 23 = .ok (.getfield 15, 3) := by decide +kernel
theorem dX7_takeBytes_26 : decode cX7_takeBytes 26 = .ok (.lload_n 1, 1) := by decide +kernel
theorem dX7_takeBytes_27 : decode cX7_takeBytes 27 = .ok (.bipush 8, 2) := by decide +kernel
theorem dX7_takeBytes_29 : decode cX7_takeBytes 29 = .ok (.iload 4, 2) := by decide +kernel
theorem dX7_takeBytes_31 : decode cX7_takeBytes 31 = .ok (.imul, 1) := by decide +kernel
theorem dX7_takeBytes_32 : decode cX7_takeBytes 32 = .ok (.lushr, 1) := by decide +kernel
theorem dX7_takeBytes_33 : decode cX7_takeBytes 33 = .ok (.ldc2_w 40, 3) := by decide +kernel
theorem dX7_takeBytes_36 : decode cX7_takeBytes 36 = .ok (.land, 1) := by decide +kernel
theorem dX7_takeBytes_37 : decode cX7_takeBytes 37 = .ok (.l2i, 1) := by decide +kernel
theorem dX7_takeBytes_38 : decode cX7_takeBytes 38 = .ok (.iastore, 1) := by decide +kernel
theorem dX7_takeBytes_39 : decode cX7_takeBytes 39 = .ok (.aload_n 0, 1) := by decide +kernel
theorem dX7_takeBytes_40 : decode cX7_takeBytes 40 = .ok (.dup, 1) := by decide +kernel
theorem dX7_takeBytes_41 : decode cX7_takeBytes 41 = .ok (.getfield 15, 3) := by decide +kernel
theorem dX7_takeBytes_44 : decode cX7_takeBytes 44 = .ok (.iconst 1, 1) := by decide +kernel
theorem dX7_takeBytes_45 : decode cX7_takeBytes 45 = .ok (.iadd, 1) := by decide +kernel
theorem dX7_takeBytes_46 : decode cX7_takeBytes 46 = .ok (.putfield 15, 3) := by decide +kernel
theorem dX7_takeBytes_49 : decode cX7_takeBytes 49 = .ok (.iinc 4 1, 3) := by decide +kernel
theorem dX7_takeBytes_52 : decode cX7_takeBytes 52 = .ok (.goto (-49), 3) := by decide +kernel
theorem dX7_takeBytes_55 : decode cX7_takeBytes 55 = .ok (.return_, 1) := by decide +kernel
theorem dX7_wipe_0 : decode cX7_wipe 0 = .ok (.aload_n 0, 1) := by decide +kernel
theorem dX7_wipe_1 : decode cX7_wipe 1 = .ok (.iconst 0, 1) := by decide +kernel
theorem dX7_wipe_2 : decode cX7_wipe 2 = .ok (.putfield 15, 3) := by decide +kernel
theorem dX7_wipe_5 : decode cX7_wipe 5 = .ok (.return_, 1) := by decide +kernel
theorem dX7_readRule_0 : decode cX7_readRule 0 = .ok (.aload_n 0, 1) := by decide +kernel
theorem dX7_readRule_1 : decode cX7_readRule 1 = .ok (.iconst 0, 1) := by decide +kernel
theorem dX7_readRule_2 : decode cX7_readRule 2 = .ok (.putfield 34, 3) := by decide +kernel
theorem dX7_readRule_5 : decode cX7_readRule 5 = .ok (.aload_n 0, 1) := by decide +kernel
theorem dX7_readRule_6 : decode cX7_readRule 6 = .ok (.bipush (-3), 2) := by decide +kernel
theorem dX7_readRule_8 : decode cX7_readRule 8 = .ok (.putfield 37, 3) := by decide +kernel
theorem dX7_readRule_11 : decode cX7_readRule 11 = .ok (.aload_n 0, 1) := by decide +kernel
theorem dX7_readRule_12 : decode cX7_readRule 12 = .ok (.bipush (-3), 2) := by decide +kernel
theorem dX7_readRule_14 : decode cX7_readRule 14 = .ok (.putfield 25, 3) := by decide +kernel
theorem dX7_readRule_17 : decode cX7_readRule 17 = .ok (.aload_n 0, 1) := by decide +kernel
theorem dX7_readRule_18 : decode cX7_readRule 18 = .ok (.bipush (-3), 2) := by decide +kernel
theorem dX7_readRule_20 : decode cX7_readRule 20 = .ok (.putfield 28, 3) := by decide +kernel
theorem dX7_readRule_23 : decode cX7_readRule 23 = .ok (.aload_n 0, 1) := by decide +kernel
theorem dX7_readRule_24 : decode cX7_readRule 24 = .ok (.aload_n 0, 1) := by decide +kernel
theorem dX7_readRule_25 : decode cX7_readRule 25 = .ok (.ldc 42, 2) := by decide +kernel
theorem dX7_readRule_27 : decode cX7_readRule 27 = .ok (.invokevirtual 44, 3) := by decide +kernel
theorem dX7_readRule_30 : decode cX7_readRule 30 = .ok (.putfield 19, 3) := by decide +kernel
theorem dX7_readRule_33 : decode cX7_readRule 33 = .ok (.aload_n 0, 1) := by decide +kernel
theorem dX7_readRule_34 : decode cX7_readRule 34 = .ok (.aload_n 0, 1) := by decide +kernel
theorem dX7_readRule_35 : decode cX7_readRule 35 = .ok (.aload_n 0, 1) := by decide +kernel
theorem dX7_readRule_36 : decode cX7_readRule 36 = .ok (.getfield 19, 3) := by decide +kernel
theorem dX7_readRule_39 : decode cX7_readRule 39 = .ok (.iconst 2, 1) := by decide +kernel
theorem dX7_readRule_40 : decode cX7_readRule 40 = .ok (.if_icmp .ne 8, 3) := by decide +kernel
theorem dX7_readRule_43 : decode cX7_readRule 43 = .ok (.ldc 48, 2) := by decide +kernel
theorem dX7_readRule_45 : decode cX7_readRule 45 = .ok (.goto 5, 3) := by decide +kernel
theorem dX7_readRule_48 : decode cX7_readRule 48 = .ok (.ldc 50, 2) := by decide +kernel
theorem dX7_readRule_50 : decode cX7_readRule 50 = .ok (.invokevirtual 44, 3) := by decide +kernel
theorem dX7_readRule_53 : decode cX7_readRule 53 = .ok (.putfield 22, 3) := by decide +kernel
theorem dX7_readRule_56 : decode cX7_readRule 56 = .ok (.aload_n 0, 1) := by decide +kernel
theorem dX7_readRule_57 : decode cX7_readRule 57 = .ok (.invokevirtual 52, 3) := by decide +kernel
theorem dX7_readRule_60 : decode cX7_readRule 60 = .ok (.aload_n 0, 1) := by decide +kernel
theorem dX7_readRule_61 : decode cX7_readRule 61 = .ok (.invokevirtual 55, 3) := by decide +kernel
theorem dX7_readRule_64 : decode cX7_readRule 64 = .ok (.aload_n 0, 1) := by decide +kernel
theorem dX7_readRule_65 : decode cX7_readRule 65 = .ok (.getfield 37, 3) := by decide +kernel
theorem dX7_readRule_68 : decode cX7_readRule 68 = .ok (.ireturn, 1) := by decide +kernel
theorem dX7_readRest_0 : decode cX7_readRest 0 = .ok (.aload_n 0, 1) := by decide +kernel
theorem dX7_readRest_1 : decode cX7_readRest 1 = .ok (.getfield 19, 3) := by decide +kernel
theorem dX7_readRest_4 : decode cX7_readRest 4 = .ok (.tableswitch 152 0 5 #[40, 61, 152, 92, 106, 138], 40) := by decide +kernel
theorem dX7_readRest_44 : decode cX7_readRest 44 = .ok (.aload_n 0, 1) := by decide +kernel
theorem dX7_readRest_45 : decode cX7_readRest 45 = .ok (.ldc 58, 2) := by decide +kernel
theorem dX7_readRest_47 : decode cX7_readRest 47 = .ok (.invokevirtual 44, 3) := by decide +kernel
theorem dX7_readRest_50 : decode cX7_readRest 50 = .ok (.pop, 1) := by decide +kernel
theorem dX7_readRest_51 : decode cX7_readRest 51 = .ok (.aload_n 0, 1) := by decide +kernel
theorem dX7_readRest_52 : decode cX7_readRest 52 = .ok (.aload_n 0, 1) := by decide +kernel
theorem dX7_readRest_53 : decode cX7_readRest 53 = .ok (.iconst 1, 1) := by decide +kernel
theorem dX7_readRest_54 : decode cX7_readRest 54 = .ok (.bipush 48, 2) := by decide +kernel
theorem dX7_readRest_56 : decode cX7_readRest 56 = .ok (.invokevirtual 60, 3) := by decide +kernel
theorem dX7_readRest_59 : decode cX7_readRest 59 = .ok (.putfield 25, 3) := by decide +kernel
theorem dX7_readRest_62 : decode cX7_readRest 62 = .ok (.goto 94, 3) := by decide +kernel
theorem dX7_readRest_65 : decode cX7_readRest 65 = .ok (.aload_n 0, 1) := by decide +kernel
theorem dX7_readRest_66 : decode cX7_readRest 66 = .ok (.aload_n 0, 1) := by decide +kernel
theorem dX7_readRest_67 : decode cX7_readRest 67 = .ok (.ldc 50, 2) := by decide +kernel
theorem dX7_readRest_69 : decode cX7_readRest 69 = .ok (.invokevirtual 44, 3) := by decide +kernel
theorem dX7_readRest_72 : decode cX7_readRest 72 = .ok (.putfield 25, 3) := by decide +kernel
theorem dX7_readRest_75 : decode cX7_readRest 75 = .ok (.aload_n 0, 1) := by decide +kernel
theorem dX7_readRest_76 : decode cX7_readRest 76 = .ok (.ldc 64, 2) := by decide +kernel
theorem dX7_readRest_78 : decode cX7_readRest 78 = .ok (.invokevirtual 44, 3) := by decide +kernel
theorem dX7_readRest_81 : decode cX7_readRest 81 = .ok (.pop, 1) := by decide +kernel
theorem dX7_readRest_82 : decode cX7_readRest 82 = .ok (.aload_n 0, 1) := by decide +kernel
theorem dX7_readRest_83 : decode cX7_readRest 83 = .ok (.aload_n 0, 1) := by decide +kernel
theorem dX7_readRest_84 : decode cX7_readRest 84 = .ok (.iconst 0, 1) := by decide +kernel
theorem dX7_readRest_85 : decode cX7_readRest 85 = .ok (.bipush 9, 2) := by decide +kernel
theorem dX7_readRest_87 : decode cX7_readRest 87 = .ok (.invokevirtual 60, 3) := by decide +kernel
theorem dX7_readRest_90 : decode cX7_readRest 90 = .ok (.putfield 28, 3) := by decide +kernel
theorem dX7_readRest_93 : decode cX7_readRest 93 = .ok (.goto 63, 3) := by decide +kernel
theorem dX7_readRest_96 : decode cX7_readRest 96 = .ok (.aload_n 0, 1) := by decide +kernel
theorem dX7_readRest_97 : decode cX7_readRest 97 = .ok (.aload_n 0, 1) := by decide +kernel
theorem dX7_readRest_98 : decode cX7_readRest 98 = .ok (.iconst 1, 1) := by decide +kernel
theorem dX7_readRest_99 : decode cX7_readRest 99 = .ok (.bipush 12, 2) := by decide +kernel
theorem dX7_readRest_101 : decode cX7_readRest 101 = .ok (.invokevirtual 60, 3) := by decide +kernel
theorem dX7_readRest_104 : decode cX7_readRest 104 = .ok (.putfield 25, 3) := by decide +kernel
theorem dX7_readRest_107 : decode cX7_readRest 107 = .ok (.goto 49, 3) := by decide +kernel
theorem dX7_readRest_110 : decode cX7_readRest 110 = .ok (.aload_n 0, 1) := by decide +kernel
theorem dX7_readRest_111 : decode cX7_readRest 111 = .ok (.aload_n 0, 1) := by decide +kernel
theorem dX7_readRest_112 : decode cX7_readRest 112 = .ok (.iconst 0, 1) := by decide +kernel
theorem dX7_readRest_113 : decode cX7_readRest 113 = .ok (.bipush 23, 2) := by decide +kernel
theorem dX7_readRest_115 : decode cX7_readRest 115 = .ok (.invokevirtual 60, 3) := by decide +kernel
theorem dX7_readRest_118 : decode cX7_readRest 118 = .ok (.putfield 25, 3) := by decide +kernel
theorem dX7_readRest_121 : decode cX7_readRest 121 = .ok (.aload_n 0, 1) := by decide +kernel
theorem dX7_readRest_122 : decode cX7_readRest 122 = .ok (.ldc 66, 2) := by decide +kernel
theorem dX7_readRest_124 : decode cX7_readRest 124 = .ok (.invokevirtual 44, 3) := by decide +kernel
theorem dX7_readRest_127 : decode cX7_readRest 127 = .ok (.pop, 1) := by decide +kernel
theorem dX7_readRest_128 : decode cX7_readRest 128 = .ok (.aload_n 0, 1) := by decide +kernel
theorem dX7_readRest_129 : decode cX7_readRest 129 = .ok (.aload_n 0, 1) := by decide +kernel
theorem dX7_readRest_130 : decode cX7_readRest 130 = .ok (.iconst 0, 1) := by decide +kernel
theorem dX7_readRest_131 : decode cX7_readRest 131 = .ok (.bipush 23, 2) := by decide +kernel
theorem dX7_readRest_133 : decode cX7_readRest 133 = .ok (.invokevirtual 60, 3) := by decide +kernel
theorem dX7_readRest_136 : decode cX7_readRest 136 = .ok (.putfield 28, 3) := by decide +kernel
theorem dX7_readRest_139 : decode cX7_readRest 139 = .ok (.goto 17, 3) := by decide +kernel
theorem dX7_readRest_142 : decode cX7_readRest 142 = .ok (.aload_n 0, 1) := by decide +kernel
theorem dX7_readRest_143 : decode cX7_readRest 143 = .ok (.aload_n 0, 1) := by decide +kernel
theorem dX7_readRest_144 : decode cX7_readRest 144 = .ok (.iconst 1, 1) := by decide +kernel
theorem dX7_readRest_145 : decode cX7_readRest 145 = .ok (.bipush 24, 2) := by decide +kernel
theorem dX7_readRest_147 : decode cX7_readRest 147 = .ok (.invokevirtual 60, 3) := by decide +kernel
theorem dX7_readRest_150 : decode cX7_readRest 150 = .ok (.putfield 25, 3) := by decide +kernel
theorem dX7_readRest_153 : decode cX7_readRest 153 = .ok (.goto 3, 3) := by decide +kernel
theorem dX7_readRest_156 : decode cX7_readRest 156 = .ok (.return_, 1) := by decide +kernel
theorem dX7_blame_0 : decode cX7_blame 0 = .ok (.aload_n 0, 1) := by decide +kernel
theorem dX7_blame_1 : decode cX7_blame 1 = .ok (.getfield 37, 3) := by decide +kernel
theorem dX7_blame_4 : decode cX7_blame 4 = .ok (.bipush (-3), 2) := by decide +kernel
theorem dX7_blame_6 : decode cX7_blame 6 = .ok (.if_icmp .ne 11, 3) := by decide +kernel
theorem dX7_blame_9 : decode cX7_blame 9 = .ok (.aload_n 0, 1) := by decide +kernel
theorem dX7_blame_10 : decode cX7_blame 10 = .ok (.aload_n 0, 1) := by decide +kernel
theorem dX7_blame_11 : decode cX7_blame 11 = .ok (.getfield 31, 3) := by decide +kernel
theorem dX7_blame_14 : decode cX7_blame 14 = .ok (.putfield 37, 3) := by decide +kernel
theorem dX7_blame_17 : decode cX7_blame 17 = .ok (.return_, 1) := by decide +kernel
theorem dX7_readEnd_0 : decode cX7_readEnd 0 = .ok (.aload_n 0, 1) := by decide +kernel
theorem dX7_readEnd_1 : decode cX7_readEnd 1 = .ok (.getfield 37, 3) := by decide +kernel
theorem dX7_readEnd_4 : decode cX7_readEnd 4 = .ok (.bipush (-3), 2) := by decide +kernel
theorem dX7_readEnd_6 : decode cX7_readEnd 6 = .ok (.if_icmp .ne 22, 3) := by decide +kernel
theorem dX7_readEnd_9 : decode cX7_readEnd 9 = .ok (.aload_n 0, 1) := by decide +kernel
theorem dX7_readEnd_10 : decode cX7_readEnd 10 = .ok (.invokevirtual 68, 3) := by decide +kernel
theorem dX7_readEnd_13 : decode cX7_readEnd 13 = .ok (.aload_n 0, 1) := by decide +kernel
theorem dX7_readEnd_14 : decode cX7_readEnd 14 = .ok (.getfield 31, 3) := by decide +kernel
theorem dX7_readEnd_17 : decode cX7_readEnd 17 = .ok (.aload_n 0, 1) := by decide +kernel
theorem dX7_readEnd_18 : decode cX7_readEnd 18 = .ok (.getfield 15, 3) := by decide +kernel
theorem dX7_readEnd_21 : decode cX7_readEnd 21 = .ok (.if_icmp .ge 7, 3) := by decide +kernel
theorem dX7_readEnd_24 : decode cX7_readEnd 24 = .ok (.aload_n 0, 1) := by decide +kernel
theorem dX7_readEnd_25 : decode cX7_readEnd 25 = .ok (.invokevirtual 71, 3) := by decide +kernel
theorem dX7_readEnd_28 : decode cX7_readEnd 28 = .ok (.return_, 1) := by decide +kernel
theorem dX7_readOneOf_0 : decode cX7_readOneOf 0 = .ok (.aload_n 0, 1) := by decide +kernel
theorem dX7_readOneOf_1 : decode cX7_readOneOf 1 = .ok (.getfield 37, 3) := by decide +kernel
theorem dX7_readOneOf_4 : decode cX7_readOneOf 4 = .ok (.bipush (-3), 2) := by decide +kernel
theorem dX7_readOneOf_6 : decode cX7_readOneOf 6 = .ok (.if_icmp .eq 6, 3) := by decide +kernel
theorem dX7_readOneOf_9 : decode cX7_readOneOf 9 = .ok (.bipush (-3), 2) := by decide +kernel
theorem dX7_readOneOf_11 : decode cX7_readOneOf 11 = .ok (.ireturn, 1) := by decide +kernel
theorem dX7_readOneOf_12 : decode cX7_readOneOf 12 = .ok (.aload_n 0, 1) := by decide +kernel
theorem dX7_readOneOf_13 : decode cX7_readOneOf 13 = .ok (.invokevirtual 68, 3) := by decide +kernel
theorem dX7_readOneOf_16 : decode cX7_readOneOf 16 = .ok (.aload_n 0, 1) := by decide +kernel
theorem dX7_readOneOf_17 : decode cX7_readOneOf 17 = .ok (.invokevirtual 74, 3) := by decide +kernel
theorem dX7_readOneOf_20 : decode cX7_readOneOf 20 = .ok (.ifCond .eq 11, 3) := by decide +kernel
theorem dX7_readOneOf_23 : decode cX7_readOneOf 23 = .ok (.aload_n 0, 1) := by decide +kernel
theorem dX7_readOneOf_24 : decode cX7_readOneOf 24 = .ok (.aload_n 1, 1) := by decide +kernel
theorem dX7_readOneOf_25 : decode cX7_readOneOf 25 = .ok (.invokevirtual 78, 3) := by decide +kernel
theorem dX7_readOneOf_28 : decode cX7_readOneOf 28 = .ok (.goto 5, 3) := by decide +kernel
theorem dX7_readOneOf_31 : decode cX7_readOneOf 31 = .ok (.bipush (-3), 2) := by decide +kernel
theorem dX7_readOneOf_33 : decode cX7_readOneOf 33 = .ok (.istore_n 2, 1) := by decide +kernel
theorem dX7_readOneOf_34 : decode cX7_readOneOf 34 = .ok (.iload_n 2, 1) := by decide +kernel
theorem dX7_readOneOf_35 : decode cX7_readOneOf 35 = .ok (.bipush (-3), 2) := by decide +kernel
theorem dX7_readOneOf_37 : decode cX7_readOneOf 37 = .ok (.if_icmp .ne 7, 3) := by decide +kernel
theorem dX7_readOneOf_40 : decode cX7_readOneOf 40 = .ok (.aload_n 0, 1) := by decide +kernel
theorem dX7_readOneOf_41 : decode cX7_readOneOf 41 = .ok (.invokevirtual 71, 3) := by decide +kernel
theorem dX7_readOneOf_44 : decode cX7_readOneOf 44 = .ok (.iload_n 2, 1) := by decide +kernel
theorem dX7_readOneOf_45 : decode cX7_readOneOf 45 = .ok (.ireturn, 1) := by decide +kernel
theorem dX7_readNumber_0 : decode cX7_readNumber 0 = .ok (.aload_n 0, 1) := by decide +kernel
theorem dX7_readNumber_1 : decode cX7_readNumber 1 = .ok (.getfield 37, 3) := by decide +kernel
theorem dX7_readNumber_4 : decode cX7_readNumber 4 = .ok (.bipush (-3), 2) := by decide +kernel
theorem dX7_readNumber_6 : decode cX7_readNumber 6 = .ok (.if_icmp .eq 6, 3) := by decide +kernel
theorem dX7_readNumber_9 : decode cX7_readNumber 9 = .ok (.bipush (-3), 2) := by decide +kernel
theorem dX7_readNumber_11 : decode cX7_readNumber 11 = .ok (.ireturn, 1) := by decide +kernel
theorem dX7_readNumber_12 : decode cX7_readNumber 12 = .ok (.aload_n 0, 1) := by decide +kernel
theorem dX7_readNumber_13 : decode cX7_readNumber 13 = .ok (.invokevirtual 68, 3) := by decide +kernel
theorem dX7_readNumber_16 : decode cX7_readNumber 16 = .ok (.aload_n 0, 1) := by decide +kernel
theorem dX7_readNumber_17 : decode cX7_readNumber 17 = .ok (.invokevirtual 74, 3) := by decide +kernel
theorem dX7_readNumber_20 : decode cX7_readNumber 20 = .ok (.ifCond .eq 10, 3) := by decide +kernel
theorem dX7_readNumber_23 : decode cX7_readNumber 23 = .ok (.aload_n 0, 1) := by decide +kernel
theorem dX7_readNumber_24 : decode cX7_readNumber 24 = .ok (.invokevirtual 81, 3) := by decide +kernel
theorem dX7_readNumber_27 : decode cX7_readNumber 27 = .ok (.goto 5, 3) := by decide +kernel
theorem dX7_readNumber_30 : decode cX7_readNumber 30 = .ok (.bipush (-3), 2) := by decide +kernel
theorem dX7_readNumber_32 : decode cX7_readNumber 32 = .ok (.istore_n 3, 1) := by decide +kernel
theorem dX7_readNumber_33 : decode cX7_readNumber 33 = .ok (.iload_n 3, 1) := by decide +kernel
theorem dX7_readNumber_34 : decode cX7_readNumber 34 = .ok (.iload_n 1, 1) := by decide +kernel
theorem dX7_readNumber_35 : decode cX7_readNumber 35 = .ok (.if_icmp .lt 8, 3) := by decide +kernel
theorem dX7_readNumber_38 : decode cX7_readNumber 38 = .ok (.iload_n 3, 1) := by decide +kernel
theorem dX7_readNumber_39 : decode cX7_readNumber 39 = .ok (.iload_n 2, 1) := by decide +kernel
theorem dX7_readNumber_40 : decode cX7_readNumber 40 = .ok (.if_icmp .le 7, 3) := by decide +kernel
theorem dX7_readNumber_43 : decode cX7_readNumber 43 = .ok (.aload_n 0, 1) := by decide +kernel
theorem dX7_readNumber_44 : decode cX7_readNumber 44 = .ok (.invokevirtual 71, 3) := by decide +kernel
theorem dX7_readNumber_47 : decode cX7_readNumber 47 = .ok (.iload_n 3, 1) := by decide +kernel
theorem dX7_readNumber_48 : decode cX7_readNumber 48 = .ok (.ireturn, 1) := by decide +kernel
theorem dX7_findPiece_0 : decode cX7_findPiece 0 = .ok (.aload_n 0, 1) := by decide +kernel
theorem dX7_findPiece_1 : decode cX7_findPiece 1 = .ok (.getfield 34, 3) := by decide +kernel
theorem dX7_findPiece_4 : decode cX7_findPiece 4 = .ok (.istore_n 1, 1) := by decide +kernel
theorem dX7_findPiece_5 : decode cX7_findPiece 5 = .ok (.iload_n 1, 1) := by decide +kernel
theorem dX7_findPiece_6 : decode cX7_findPiece 6 = .ok (.aload_n 0, 1) := by decide +kernel
theorem dX7_findPiece_7 : decode cX7_findPiece 7 = .ok (.getfield 15, 3) := by decide +kernel
theorem dX7_findPiece_10 : decode cX7_findPiece 10 = .ok (.if_icmp .ge 20, 3) := by decide +kernel
theorem dX7_findPiece_13 : decode cX7_findPiece 13 = .ok (.aload_n 0, 1) := by decide +kernel
theorem dX7_findPiece_14 : decode cX7_findPiece 14 = .ok (.getfield 9, 3) := by decide +kernel
theorem dX7_findPiece_17 : decode cX7_findPiece 17 = .ok (.iload_n 1, 1) := by decide +kernel
theorem dX7_findPiece_18 : decode cX7_findPiece 18 = .ok (.iaload, 1) := by decide +kernel
theorem dX7_findPiece_19 : decode cX7_findPiece 19 = .ok (.bipush 32, 2) := by decide +kernel
theorem dX7_findPiece_21 : decode cX7_findPiece 21 = .ok (.if_icmp .ne 9, 3) := by decide +kernel
theorem dX7_findPiece_24 : decode cX7_findPiece 24 = .ok (.iinc 1 1, 3) := by decide +kernel
theorem dX7_findPiece_27 : decode cX7_findPiece 27 = .ok (.goto (-22), 3) := by decide +kernel
theorem dX7_findPiece_30 : decode cX7_findPiece 30 = .ok (.aload_n 0, 1) := by decide +kernel
theorem dX7_findPiece_31 : decode cX7_findPiece 31 = .ok (.iload_n 1, 1) := by decide +kernel
theorem dX7_findPiece_32 : decode cX7_findPiece 32 = .ok (.putfield 31, 3) := by decide +kernel
theorem dX7_findPiece_35 : decode cX7_findPiece 35 = .ok (.aload_n 0, 1) := by decide +kernel
theorem dX7_findPiece_36 : decode cX7_findPiece 36 = .ok (.iload_n 1, 1) := by decide +kernel
theorem dX7_findPiece_37 : decode cX7_findPiece 37 = .ok (.invokevirtual 85, 3) := by decide +kernel
theorem dX7_findPiece_40 : decode cX7_findPiece 40 = .ok (.ifCond .eq 25, 3) := by decide +kernel
theorem dX7_findPiece_43 : decode cX7_findPiece 43 = .ok (.iload_n 1, 1) := by decide +kernel
theorem dX7_findPiece_44 : decode cX7_findPiece 44 = .ok (.aload_n 0, 1) := by decide +kernel
theorem dX7_findPiece_45 : decode cX7_findPiece 45 = .ok (.getfield 15, 3) := by decide +kernel
theorem dX7_findPiece_48 : decode cX7_findPiece 48 = .ok (.if_icmp .ge 58, 3) := by decide +kernel
theorem dX7_findPiece_51 : decode cX7_findPiece 51 = .ok (.aload_n 0, 1) := by decide +kernel
theorem dX7_findPiece_52 : decode cX7_findPiece 52 = .ok (.iload_n 1, 1) := by decide +kernel
theorem dX7_findPiece_53 : decode cX7_findPiece 53 = .ok (.invokevirtual 85, 3) := by decide +kernel
theorem dX7_findPiece_56 : decode cX7_findPiece 56 = .ok (.ifCond .eq 50, 3) := by decide +kernel
theorem dX7_findPiece_59 : decode cX7_findPiece 59 = .ok (.iinc 1 1, 3) := by decide +kernel
theorem dX7_findPiece_62 : decode cX7_findPiece 62 = .ok (.goto (-19), 3) := by decide +kernel
theorem dX7_findPiece_65 : decode cX7_findPiece 65 = .ok (.aload_n 0, 1) := by decide +kernel
theorem dX7_findPiece_66 : decode cX7_findPiece 66 = .ok (.iload_n 1, 1) := by decide +kernel
theorem dX7_findPiece_67 : decode cX7_findPiece 67 = .ok (.invokevirtual 89, 3) := by decide +kernel
theorem dX7_findPiece_70 : decode cX7_findPiece 70 = .ok (.ifCond .eq 25, 3) := by decide +kernel
theorem dX7_findPiece_73 : decode cX7_findPiece 73 = .ok (.iload_n 1, 1) := by decide +kernel
theorem dX7_findPiece_74 : decode cX7_findPiece 74 = .ok (.aload_n 0, 1) := by decide +kernel
theorem dX7_findPiece_75 : decode cX7_findPiece 75 = .ok (.getfield 15, 3) := by decide +kernel
theorem dX7_findPiece_78 : decode cX7_findPiece 78 = .ok (.if_icmp .ge 28, 3) := by decide +kernel
theorem dX7_findPiece_81 : decode cX7_findPiece 81 = .ok (.aload_n 0, 1) := by decide +kernel
theorem dX7_findPiece_82 : decode cX7_findPiece 82 = .ok (.iload_n 1, 1) := by decide +kernel
theorem dX7_findPiece_83 : decode cX7_findPiece 83 = .ok (.invokevirtual 89, 3) := by decide +kernel
theorem dX7_findPiece_86 : decode cX7_findPiece 86 = .ok (.ifCond .eq 20, 3) := by decide +kernel
theorem dX7_findPiece_89 : decode cX7_findPiece 89 = .ok (.iinc 1 1, 3) := by decide +kernel
theorem dX7_findPiece_92 : decode cX7_findPiece 92 = .ok (.goto (-19), 3) := by decide +kernel
theorem dX7_findPiece_95 : decode cX7_findPiece 95 = .ok (.iload_n 1, 1) := by decide +kernel
theorem dX7_findPiece_96 : decode cX7_findPiece 96 = .ok (.aload_n 0, 1) := by decide +kernel
theorem dX7_findPiece_97 : decode cX7_findPiece 97 = .ok (.getfield 15, 3) := by decide +kernel
theorem dX7_findPiece_100 : decode cX7_findPiece 100 = .ok (.if_icmp .ge 6, 3) := by decide +kernel
theorem dX7_findPiece_103 : decode cX7_findPiece 103 = .ok (.iinc 1 1, 3) := by decide +kernel
theorem dX7_findPiece_106 : decode cX7_findPiece 106 = .ok (.aload_n 0, 1) := by decide +kernel
theorem dX7_findPiece_107 : decode cX7_findPiece 107 = .ok (.iload_n 1, 1) := by decide +kernel
theorem dX7_findPiece_108 : decode cX7_findPiece 108 = .ok (.putfield 34, 3) := by decide +kernel
theorem dX7_findPiece_111 : decode cX7_findPiece 111 = .ok (.return_, 1) := by decide +kernel
theorem dX7_isLetter_0 : decode cX7_isLetter 0 = .ok (.iload_n 1, 1) := by decide +kernel
theorem dX7_isLetter_1 : decode cX7_isLetter 1 = .ok (.aload_n 0, 1) := by decide +kernel
theorem dX7_isLetter_2 : decode cX7_isLetter 2 = .ok (.getfield 15, 3) := by decide +kernel
theorem dX7_isLetter_5 : decode cX7_isLetter 5 = .ok (.if_icmp .ge 29, 3) := by decide +kernel
theorem dX7_isLetter_8 : decode cX7_isLetter 8 = .ok (.aload_n 0, 1) := by decide +kernel
theorem dX7_isLetter_9 : decode cX7_isLetter 9 = .ok (.getfield 9, 3) := by decide +kernel
theorem dX7_isLetter_12 : decode cX7_isLetter 12 = .ok (.iload_n 1, 1) := by decide +kernel
theorem dX7_isLetter_13 : decode cX7_isLetter 13 = .ok (.iaload, 1) := by decide +kernel
theorem dX7_isLetter_14 : decode cX7_isLetter 14 = .ok (.bipush 97, 2) := by decide +kernel
theorem dX7_isLetter_16 : decode cX7_isLetter 16 = .ok (.if_icmp .lt 18, 3) := by decide +kernel
theorem dX7_isLetter_19 : decode cX7_isLetter 19 = .ok (.aload_n 0, 1) := by decide +kernel
theorem dX7_isLetter_20 : decode cX7_isLetter 20 = .ok (.getfield 9, 3) := by decide +kernel
theorem dX7_isLetter_23 : decode cX7_isLetter 23 = .ok (.iload_n 1, 1) := by decide +kernel
theorem dX7_isLetter_24 : decode cX7_isLetter 24 = .ok (.iaload, 1) := by decide +kernel
theorem dX7_isLetter_25 : decode cX7_isLetter 25 = .ok (.bipush 122, 2) := by decide +kernel
theorem dX7_isLetter_27 : decode cX7_isLetter 27 = .ok (.if_icmp .gt 7, 3) := by decide +kernel
theorem dX7_isLetter_30 : decode cX7_isLetter 30 = .ok (.iconst 1, 1) := by decide +kernel
theorem dX7_isLetter_31 : decode cX7_isLetter 31 = .ok (.goto 4, 3) := by decide +kernel
theorem dX7_isLetter_34 : decode cX7_isLetter 34 = .ok (.iconst 0, 1) := by decide +kernel
theorem dX7_isLetter_35 : decode cX7_isLetter 35 = .ok (.ireturn, 1) := by decide +kernel
theorem dX7_isDigit_0 : decode cX7_isDigit 0 = .ok (.iload_n 1, 1) := by decide +kernel
theorem dX7_isDigit_1 : decode cX7_isDigit 1 = .ok (.aload_n 0, 1) := by decide +kernel
theorem dX7_isDigit_2 : decode cX7_isDigit 2 = .ok (.getfield 15, 3) := by decide +kernel
theorem dX7_isDigit_5 : decode cX7_isDigit 5 = .ok (.if_icmp .ge 29, 3) := by decide +kernel
theorem dX7_isDigit_8 : decode cX7_isDigit 8 = .ok (.aload_n 0, 1) := by decide +kernel
theorem dX7_isDigit_9 : decode cX7_isDigit 9 = .ok (.getfield 9, 3) := by decide +kernel
theorem dX7_isDigit_12 : decode cX7_isDigit 12 = .ok (.iload_n 1, 1) := by decide +kernel
theorem dX7_isDigit_13 : decode cX7_isDigit 13 = .ok (.iaload, 1) := by decide +kernel
theorem dX7_isDigit_14 : decode cX7_isDigit 14 = .ok (.bipush 48, 2) := by decide +kernel
theorem dX7_isDigit_16 : decode cX7_isDigit 16 = .ok (.if_icmp .lt 18, 3) := by decide +kernel
theorem dX7_isDigit_19 : decode cX7_isDigit 19 = .ok (.aload_n 0, 1) := by decide +kernel
theorem dX7_isDigit_20 : decode cX7_isDigit 20 = .ok (.getfield 9, 3) := by decide +kernel
theorem dX7_isDigit_23 : decode cX7_isDigit 23 = .ok (.iload_n 1, 1) := by decide +kernel
theorem dX7_isDigit_24 : decode cX7_isDigit 24 = .ok (.iaload, 1) := by decide +kernel
theorem dX7_isDigit_25 : decode cX7_isDigit 25 = .ok (.bipush 57, 2) := by decide +kernel
theorem dX7_isDigit_27 : decode cX7_isDigit 27 = .ok (.if_icmp .gt 7, 3) := by decide +kernel
theorem dX7_isDigit_30 : decode cX7_isDigit 30 = .ok (.iconst 1, 1) := by decide +kernel
theorem dX7_isDigit_31 : decode cX7_isDigit 31 = .ok (.goto 4, 3) := by decide +kernel
theorem dX7_isDigit_34 : decode cX7_isDigit 34 = .ok (.iconst 0, 1) := by decide +kernel
theorem dX7_isDigit_35 : decode cX7_isDigit 35 = .ok (.ireturn, 1) := by decide +kernel
theorem dX7_isParted_0 : decode cX7_isParted 0 = .ok (.aload_n 0, 1) := by decide +kernel
theorem dX7_isParted_1 : decode cX7_isParted 1 = .ok (.getfield 31, 3) := by decide +kernel
theorem dX7_isParted_4 : decode cX7_isParted 4 = .ok (.ifCond .eq 19, 3) := by decide +kernel
theorem dX7_isParted_7 : decode cX7_isParted 7 = .ok (.aload_n 0, 1) := by decide +kernel
theorem dX7_isParted_8 : decode cX7_isParted 8 = .ok (.getfield 9, 3) := by decide +kernel
theorem dX7_isParted_11 : decode cX7_isParted 11 = .ok (.aload_n 0, 1) := by decide +kernel
theorem dX7_isParted_12 : decode cX7_isParted 12 = .ok (.getfield 31, 3) := by decide +kernel
theorem dX7_isParted_15 : decode cX7_isParted 15 = .ok (.iconst 1, 1) := by decide +kernel
theorem dX7_isParted_16 : decode cX7_isParted 16 = .ok (.isub, 1) := by decide +kernel
theorem dX7_isParted_17 : decode cX7_isParted 17 = .ok (.iaload, 1) := by decide +kernel
theorem dX7_isParted_18 : decode cX7_isParted 18 = .ok (.bipush 32, 2) := by decide +kernel
theorem dX7_isParted_20 : decode cX7_isParted 20 = .ok (.if_icmp .ne 7, 3) := by decide +kernel
theorem dX7_isParted_23 : decode cX7_isParted 23 = .ok (.iconst 1, 1) := by decide +kernel
theorem dX7_isParted_24 : decode cX7_isParted 24 = .ok (.goto 4, 3) := by decide +kernel
theorem dX7_isParted_27 : decode cX7_isParted 27 = .ok (.iconst 0, 1) := by decide +kernel
theorem dX7_isParted_28 : decode cX7_isParted 28 = .ok (.ireturn, 1) := by decide +kernel
theorem dX7_numberOfPiece_0 : decode cX7_numberOfPiece 0 = .ok (.aload_n 0, 1) := by decide +kernel
theorem dX7_numberOfPiece_1 : decode cX7_numberOfPiece 1 = .ok (.aload_n 0, 1) := by decide +kernel
theorem dX7_numberOfPiece_2 : decode cX7_numberOfPiece 2 = .ok (.getfield 31, 3) := by decide +kernel
theorem dX7_numberOfPiece_5 : decode cX7_numberOfPiece 5 = .ok (.invokevirtual 89, 3) := by decide +kernel
theorem dX7_numberOfPiece_8 : decode cX7_numberOfPiece 8 = .ok (.ifCond .eq 16, 3) := by decide +kernel
theorem dX7_numberOfPiece_11 : decode cX7_numberOfPiece 11 = .ok (.aload_n 0, 1) := by decide +kernel
theorem dX7_numberOfPiece_12 : decode cX7_numberOfPiece 12 = .ok (.getfield 34, 3) := by decide +kernel
theorem dX7_numberOfPiece_15 : decode cX7_numberOfPiece 15 = .ok (.aload_n 0, 1) := by decide +kernel
theorem dX7_numberOfPiece_16 : decode cX7_numberOfPiece 16 = .ok (.getfield 31, 3) := by decide +kernel
theorem dX7_numberOfPiece_19 : decode cX7_numberOfPiece 19 = .ok (.isub, 1) := by decide +kernel
theorem dX7_numberOfPiece_20 : decode cX7_numberOfPiece 20 = .ok (.iconst 3, 1) := by decide +kernel
theorem dX7_numberOfPiece_21 : decode cX7_numberOfPiece 21 = .ok (.if_icmp .le 6, 3) := by decide +kernel
theorem dX7_numberOfPiece_24 : decode cX7_numberOfPiece 24 = .ok (.bipush (-3), 2) := by decide +kernel
theorem dX7_numberOfPiece_26 : decode cX7_numberOfPiece 26 = .ok (.ireturn, 1) := by decide +kernel
theorem dX7_numberOfPiece_27 : decode cX7_numberOfPiece 27 = .ok (.iconst 0, 1) := by decide +kernel
theorem dX7_numberOfPiece_28 : decode cX7_numberOfPiece 28 = .ok (.istore_n 1, 1) := by decide +kernel
theorem dX7_numberOfPiece_29 : decode cX7_numberOfPiece 29 = .ok (.aload_n 0, 1) := by decide +kernel
theorem dX7_numberOfPiece_30 : decode cX7_numberOfPiece 30 = .ok (.getfield 31, 3) := by decide +kernel
theorem dX7_numberOfPiece_33 : decode cX7_numberOfPiece 33 = .ok (.istore_n 2, 1) := by decide +kernel
theorem dX7_numberOfPiece_34 : decode cX7_numberOfPiece 34 = .ok (.iload_n 2, 1) := by decide +kernel
theorem dX7_numberOfPiece_35 : decode cX7_numberOfPiece 35 = .ok (.aload_n 0, 1) := by decide +kernel
theorem dX7_numberOfPiece_36 : decode cX7_numberOfPiece 36 = .ok (.getfield 34, 3) := by decide +kernel
theorem dX7_numberOfPiece_39 : decode cX7_numberOfPiece 39 = .ok (.if_icmp .ge 24, 3) := by decide +kernel
theorem dX7_numberOfPiece_42 : decode cX7_numberOfPiece 42 = .ok (.bipush 10, 2) := by decide +kernel
theorem dX7_numberOfPiece_44 : decode cX7_numberOfPiece 44 = .ok (.iload_n 1, 1) := by decide +kernel
theorem dX7_numberOfPiece_45 : decode cX7_numberOfPiece 45 = .ok (.imul, 1) := by decide +kernel
theorem dX7_numberOfPiece_46 : decode cX7_numberOfPiece 46 = .ok (.aload_n 0, 1) := by decide +kernel
theorem dX7_numberOfPiece_47 : decode cX7_numberOfPiece 47 = .ok (.getfield 9, 3) := by decide +kernel
theorem dX7_numberOfPiece_50 : decode cX7_numberOfPiece 50 = .ok (.iload_n 2, 1) := by decide +kernel
theorem dX7_numberOfPiece_51 : decode cX7_numberOfPiece 51 = .ok (.iaload, 1) := by decide +kernel
theorem dX7_numberOfPiece_52 : decode cX7_numberOfPiece 52 = .ok (.iadd, 1) := by decide +kernel
theorem dX7_numberOfPiece_53 : decode cX7_numberOfPiece 53 = .ok (.bipush 48, 2) := by decide +kernel
theorem dX7_numberOfPiece_55 : decode cX7_numberOfPiece 55 = .ok (.isub, 1) := by decide +kernel
theorem dX7_numberOfPiece_56 : decode cX7_numberOfPiece 56 = .ok (.istore_n 1, 1) := by decide +kernel
theorem dX7_numberOfPiece_57 : decode cX7_numberOfPiece 57 = .ok (.iinc 2 1, 3) := by decide +kernel
theorem dX7_numberOfPiece_60 : decode cX7_numberOfPiece 60 = .ok (.goto (-26), 3) := by decide +kernel
theorem dX7_numberOfPiece_63 : decode cX7_numberOfPiece 63 = .ok (.iload_n 1, 1) := by decide +kernel
theorem dX7_numberOfPiece_64 : decode cX7_numberOfPiece 64 = .ok (.ireturn, 1) := by decide +kernel
theorem dX7_placeAmong_0 : decode cX7_placeAmong 0 = .ok (.iconst 0, 1) := by decide +kernel
theorem dX7_placeAmong_1 : decode cX7_placeAmong 1 = .ok (.istore_n 2, 1) := by decide +kernel
theorem dX7_placeAmong_2 : decode cX7_placeAmong 2 = .ok (.aload_n 0, 1) := by decide +kernel
theorem dX7_placeAmong_3 : decode cX7_placeAmong 3 = .ok (.getfield 31, 3) := by decide +kernel
theorem dX7_placeAmong_6 : decode cX7_placeAmong 6 = .ok (.istore_n 3, 1) := by decide +kernel
theorem dX7_placeAmong_7 : decode cX7_placeAmong 7 = .ok (.iconst 1, 1) := by decide +kernel
theorem dX7_placeAmong_8 : decode cX7_placeAmong 8 = .ok (.istore 4, 2) := by decide +kernel
theorem dX7_placeAmong_10 : decode cX7_placeAmong 10 = .ok (.iconst 0, 1) := by decide +kernel
theorem dX7_placeAmong_11 : decode cX7_placeAmong 11 = .ok (.istore 5, 2) := by decide +kernel
theorem dX7_placeAmong_13 : decode cX7_placeAmong 13 = .ok (.iload 5, 2) := by decide +kernel
theorem dX7_placeAmong_15 : decode cX7_placeAmong 15 = .ok (.aload_n 1, 1) := by decide +kernel
theorem dX7_placeAmong_16 : decode cX7_placeAmong 16 = .ok (.invokevirtual 92, 3) := by decide +kernel
theorem dX7_placeAmong_19 : decode cX7_placeAmong 19 = .ok (.if_icmp .gt 96, 3) := by decide +kernel
theorem dX7_placeAmong_22 : decode cX7_placeAmong 22 = .ok (.iload 5, 2) := by decide +kernel
theorem dX7_placeAmong_24 : decode cX7_placeAmong 24 = .ok (.aload_n 1, 1) := by decide +kernel
theorem dX7_placeAmong_25 : decode cX7_placeAmong 25 = .ok (.invokevirtual 92, 3) := by decide +kernel
theorem dX7_placeAmong_28 : decode cX7_placeAmong 28 = .ok (.if_icmp .ge 55, 3) := by decide +kernel
theorem dX7_placeAmong_31 : decode cX7_placeAmong 31 = .ok (.aload_n 1, 1) := by decide +kernel
theorem dX7_placeAmong_32 : decode cX7_placeAmong 32 = .ok (.iload 5, 2) := by decide +kernel
theorem dX7_placeAmong_34 : decode cX7_placeAmong 34 = .ok (.invokevirtual 96, 3) := by decide +kernel
theorem dX7_placeAmong_37 : decode cX7_placeAmong 37 = .ok (.bipush 32, 2) := by decide +kernel
theorem dX7_placeAmong_39 : decode cX7_placeAmong 39 = .ok (.if_icmp .eq 44, 3) := by decide +kernel
theorem dX7_placeAmong_42 : decode cX7_placeAmong 42 = .ok (.iload 4, 2) := by decide +kernel
theorem dX7_placeAmong_44 : decode cX7_placeAmong 44 = .ok (.ifCond .eq 30, 3) := by decide +kernel
theorem dX7_placeAmong_47 : decode cX7_placeAmong 47 = .ok (.iload_n 3, 1) := by decide +kernel
theorem dX7_placeAmong_48 : decode cX7_placeAmong 48 = .ok (.aload_n 0, 1) := by decide +kernel
theorem dX7_placeAmong_49 : decode cX7_placeAmong 49 = .ok (.getfield 34, 3) := by decide +kernel
theorem dX7_placeAmong_52 : decode cX7_placeAmong 52 = .ok (.if_icmp .ge 22, 3) := by decide +kernel
theorem dX7_placeAmong_55 : decode cX7_placeAmong 55 = .ok (.aload_n 0, 1) := by decide +kernel
theorem dX7_placeAmong_56 : decode cX7_placeAmong 56 = .ok (.getfield 9, 3) := by decide +kernel
theorem dX7_placeAmong_59 : decode cX7_placeAmong 59 = .ok (.iload_n 3, 1) := by decide +kernel
theorem dX7_placeAmong_60 : decode cX7_placeAmong 60 = .ok (.iaload, 1) := by decide +kernel
theorem dX7_placeAmong_61 : decode cX7_placeAmong 61 = .ok (.aload_n 1, 1) := by decide +kernel
theorem dX7_placeAmong_62 : decode cX7_placeAmong 62 = .ok (.iload 5, 2) := by decide +kernel
theorem dX7_placeAmong_64 : decode cX7_placeAmong 64 = .ok (.invokevirtual 96, 3) := by decide +kernel
theorem dX7_placeAmong_67 : decode cX7_placeAmong 67 = .ok (.if_icmp .ne 7, 3) := by decide +kernel
theorem dX7_placeAmong_70 : decode cX7_placeAmong 70 = .ok (.iconst 1, 1) := by decide +kernel
theorem dX7_placeAmong_71 : decode cX7_placeAmong 71 = .ok (.goto 4, 3) := by decide +kernel
theorem dX7_placeAmong_74 : decode cX7_placeAmong 74 = .ok (.iconst 0, 1) := by decide +kernel
theorem dX7_placeAmong_75 : decode cX7_placeAmong 75 = .ok (.istore 4, 2) := by decide +kernel
theorem dX7_placeAmong_77 : decode cX7_placeAmong 77 = .ok (.iinc 3 1, 3) := by decide +kernel
theorem dX7_placeAmong_80 : decode cX7_placeAmong 80 = .ok (.goto 29, 3) := by decide +kernel
theorem dX7_placeAmong_83 : decode cX7_placeAmong 83 = .ok (.iload 4, 2) := by decide +kernel
theorem dX7_placeAmong_85 : decode cX7_placeAmong 85 = .ok (.ifCond .eq 13, 3) := by decide +kernel
theorem dX7_placeAmong_88 : decode cX7_placeAmong 88 = .ok (.iload_n 3, 1) := by decide +kernel
theorem dX7_placeAmong_89 : decode cX7_placeAmong 89 = .ok (.aload_n 0, 1) := by decide +kernel
theorem dX7_placeAmong_90 : decode cX7_placeAmong 90 = .ok (.getfield 34, 3) := by decide +kernel
theorem dX7_placeAmong_93 : decode cX7_placeAmong 93 = .ok (.if_icmp .ne 5, 3) := by decide +kernel
theorem dX7_placeAmong_96 : decode cX7_placeAmong 96 = .ok (.iload_n 2, 1) := by decide +kernel
theorem dX7_placeAmong_97 : decode cX7_placeAmong 97 = .ok (.ireturn, 1) := by decide +kernel
theorem dX7_placeAmong_98 : decode cX7_placeAmong 98 = .ok (.iinc 2 1, 3) := by decide +kernel
theorem dX7_placeAmong_101 : decode cX7_placeAmong 101 = .ok (.aload_n 0, 1) := by decide +kernel
theorem dX7_placeAmong_102 : decode cX7_placeAmong 102 = .ok (.getfield 31, 3) := by decide +kernel
theorem dX7_placeAmong_105 : decode cX7_placeAmong 105 = .ok (.istore_n 3, 1) := by decide +kernel
theorem dX7_placeAmong_106 : decode cX7_placeAmong 106 = .ok (.iconst 1, 1) := by decide +kernel
theorem dX7_placeAmong_107 : decode cX7_placeAmong 107 = .ok (.istore 4, 2) := by decide +kernel
theorem dX7_placeAmong_109 : decode cX7_placeAmong 109 = .ok (.iinc 5 1, 3) := by decide +kernel
theorem dX7_placeAmong_112 : decode cX7_placeAmong 112 = .ok (.goto (-99), 3) := by decide +kernel
theorem dX7_placeAmong_115 : decode cX7_placeAmong 115 = .ok (.bipush (-3), 2) := by decide +kernel
theorem dX7_placeAmong_117 : decode cX7_placeAmong 117 = .ok (.ireturn, 1) := by decide +kernel
theorem dX8_init_0 : decode cX8_init 0 = .ok (.aload_n 0, 1) := by decide +kernel
theorem dX8_init_1 : decode cX8_init 1 = .ok (.invokespecial 1, 3) := by decide +kernel
theorem dX8_init_4 : decode cX8_init 4 = .ok (.aload_n 0, 1) := by decide +kernel
theorem dX8_init_5 : decode cX8_init 5 = .ok (.new 7, 3) := by decide +kernel
theorem dX8_init_8 : decode cX8_init 8 = .ok (.dup, 1) := by decide +kernel
theorem dX8_init_9 : decode cX8_init 9 = .ok (.invokespecial 9, 3) := by decide +kernel
theorem dX8_init_12 : decode cX8_init 12 = .ok (.putfield 10, 3) := by decide +kernel
theorem dX8_init_15 : decode cX8_init 15 = .ok (.aload_n 0, 1) := by decide +kernel
theorem dX8_init_16 : decode cX8_init 16 = .ok (.aload_n 0, 1) := by decide +kernel
theorem dX8_init_17 : decode cX8_init 17 = .ok (.getfield 10, 3) := by decide +kernel
theorem dX8_init_20 : decode cX8_init 20 = .ok (.getfield 16, 3) := by decide +kernel
theorem dX8_init_23 : decode cX8_init 23 = .ok (.putfield 20, 3) := by decide +kernel
theorem dX8_init_26 : decode cX8_init 26 = .ok (.aload_n 0, 1) := by decide +kernel
theorem dX8_init_27 : decode cX8_init 27 = .ok (.aload_n 0, 1) := by decide +kernel
theorem dX8_init_28 : decode cX8_init 28 = .ok (.getfield 10, 3) := by decide +kernel
theorem dX8_init_31 : decode cX8_init 31 = .ok (.getfield 21, 3) := by decide +kernel
theorem dX8_init_34 : decode cX8_init 34 = .ok (.putfield 25, 3) := by decide +kernel
theorem dX8_init_37 : decode cX8_init 37 = .ok (.aload_n 0, 1) := by decide +kernel
theorem dX8_init_38 : decode cX8_init 38 = .ok (.aload_n 0, 1) := by decide +kernel
theorem dX8_init_39 : decode cX8_init 39 = .ok (.getfield 10, 3) := by decide +kernel
theorem dX8_init_42 : decode cX8_init 42 = .ok (.getfield 26, 3) := by decide +kernel
theorem dX8_init_45 : decode cX8_init 45 = .ok (.putfield 30, 3) := by decide +kernel
theorem dX8_init_48 : decode cX8_init 48 = .ok (.aload_n 0, 1) := by decide +kernel
theorem dX8_init_49 : decode cX8_init 49 = .ok (.aload_n 0, 1) := by decide +kernel
theorem dX8_init_50 : decode cX8_init 50 = .ok (.getfield 10, 3) := by decide +kernel
theorem dX8_init_53 : decode cX8_init 53 = .ok (.getfield 31, 3) := by decide +kernel
theorem dX8_init_56 : decode cX8_init 56 = .ok (.putfield 35, 3) := by decide +kernel
theorem dX8_init_59 : decode cX8_init 59 = .ok (.aload_n 0, 1) := by decide +kernel
theorem dX8_init_60 : decode cX8_init 60 = .ok (.new 36, 3) := by decide +kernel
theorem dX8_init_63 : decode cX8_init 63 = .ok (.dup, 1) := by decide +kernel
theorem dX8_init_64 : decode cX8_init 64 = .ok (.invokespecial 38, 3) := by decide +kernel
theorem dX8_init_67 : decode cX8_init 67 = .ok (.putfield 39, 3) := by decide +kernel
theorem dX8_init_70 : decode cX8_init 70 = .ok (.aload_n 0, 1) := by decide +kernel
theorem dX8_init_71 : decode cX8_init 71 = .ok (.new 43, 3) := by decide +kernel
theorem dX8_init_74 : decode cX8_init 74 = .ok (.dup, 1) := by decide +kernel
theorem dX8_init_75 : decode cX8_init 75 = .ok (.invokespecial 45, 3) := by decide +kernel
theorem dX8_init_78 : decode cX8_init 78 = .ok (.putfield 46, 3) := by decide +kernel
theorem dX8_init_81 : decode cX8_init 81 = .ok (.aload_n 0, 1) := by decide +kernel
theorem dX8_init_82 : decode cX8_init 82 = .ok (.new 50, 3) := by decide +kernel
theorem dX8_init_85 : decode cX8_init 85 = .ok (.dup, 1) := by decide +kernel
theorem dX8_init_86 : decode cX8_init 86 = .ok (.invokespecial 52, 3) := by decide +kernel
theorem dX8_init_89 : decode cX8_init 89 = .ok (.putfield 53, 3) := by decide +kernel
theorem dX8_init_92 : decode cX8_init 92 = .ok (.aload_n 0, 1) := by decide +kernel
theorem dX8_init_93 : decode cX8_init 93 = .ok (.iconst 0, 1) := by decide +kernel
theorem dX8_init_94 : decode cX8_init 94 = .ok (.putfield 57, 3) := by decide +kernel
theorem dX8_init_97 : decode cX8_init 97 = .ok (.return_, 1) := by decide +kernel
theorem dX8_pipe_0 : decode cX8_pipe 0 = .ok (.iload_n 1, 1) := by decide +kernel
theorem dX8_pipe_1 : decode cX8_pipe 1 = .ok (.invokestatic 61, 3) := by decide +kernel
theorem dX8_pipe_4 : decode cX8_pipe 4 = .ok (.ifCond .eq 24, 3) := by decide +kernel
theorem dX8_pipe_7 : decode cX8_pipe 7 = .ok (.iload_n 2, 1) := by decide +kernel
theorem dX8_pipe_8 : decode cX8_pipe 8 = .ok (.invokestatic 61, 3) := by decide +kernel
theorem dX8_pipe_11 : decode cX8_pipe 11 = .ok (.ifCond .eq 17, 3) := by decide +kernel
theorem dX8_pipe_14 : decode cX8_pipe 14 = .ok (.iload_n 1, 1) := by decide +kernel
theorem dX8_pipe_15 : decode cX8_pipe 15 = .ok (.iload_n 2, 1) := by decide +kernel
theorem dX8_pipe_16 : decode cX8_pipe 16 = .ok (.if_icmp .eq 12, 3) := by decide +kernel
theorem dX8_pipe_19 : decode cX8_pipe 19 = .ok (.iload_n 3, 1) := by decide +kernel
theorem dX8_pipe_20 : decode cX8_pipe 20 = .ok (.ifCond .lt 8, 3) := by decide +kernel
theorem dX8_pipe_23 : decode cX8_pipe 23 = .ok (.iload_n 3, 1) := by decide +kernel
theorem dX8_pipe_24 : decode cX8_pipe 24 = .ok (.iconst 2, 1) := by decide +kernel
theorem dX8_pipe_25 : decode cX8_pipe 25 = .ok (.if_icmp .le 5, 3) := by decide +kernel
theorem dX8_pipe_28 : decode cX8_pipe 28 = .ok (.iconst (-1), 1) := by decide +kernel
theorem dX8_pipe_29 : decode cX8_pipe 29 = .ok (.ireturn, 1) := by decide +kernel
theorem dX8_pipe_30 : decode cX8_pipe 30 = .ok (.aload_n 0, 1) := by decide +kernel
theorem dX8_pipe_31 : decode cX8_pipe 31 = .ok (.getfield 20, 3) := by decide +kernel
theorem dX8_pipe_34 : decode cX8_pipe 34 = .ok (.getfield 65, 3) := by decide +kernel
theorem dX8_pipe_37 : decode cX8_pipe 37 = .ok (.bipush 12, 2) := by decide +kernel
theorem dX8_pipe_39 : decode cX8_pipe 39 = .ok (.if_icmp .lt 6, 3) := by decide +kernel
theorem dX8_pipe_42 : decode cX8_pipe 42 = .ok (.bipush (-2), 2) := by decide +kernel
theorem dX8_pipe_44 : decode cX8_pipe 44 = .ok (.ireturn, 1) := by decide +kernel
theorem dX8_pipe_45 : decode cX8_pipe 45 = .ok (.aload_n 0, 1) := by decide +kernel
theorem dX8_pipe_46 : decode cX8_pipe 46 = .ok (.getfield 20, 3) := by decide +kernel
theorem dX8_pipe_49 : decode cX8_pipe 49 = .ok (.iload_n 1, 1) := by decide +kernel
theorem dX8_pipe_50 : decode cX8_pipe 50 = .ok (.iload_n 2, 1) := by decide +kernel
theorem dX8_pipe_51 : decode cX8_pipe 51 = .ok (.iload_n 3, 1) := by decide +kernel
theorem dX8_pipe_52 : decode cX8_pipe 52 = .ok (.aload_n 0, 1) := by decide +kernel
theorem dX8_pipe_53 : decode cX8_pipe 53 = .ok (.getfield 57, 3) := by decide +kernel
theorem dX8_pipe_56 : decode cX8_pipe 56 = .ok (.invokevirtual 70, 3) := by decide +kernel
theorem dX8_pipe_59 : decode cX8_pipe 59 = .ok (.ireturn, 1) := by decide +kernel
theorem dX8_of_0 : decode cX8_of 0 = .ok (.aload_n 0, 1) := by decide +kernel
theorem dX8_of_1 : decode cX8_of 1 = .ok (.getfield 20, 3) := by decide +kernel
theorem dX8_of_4 : decode cX8_of 4 = .ok (.iload_n 1, 1) := by decide +kernel
theorem dX8_of_5 : decode cX8_of 5 = .ok (.invokevirtual 74, 3) := by decide +kernel
theorem dX8_of_8 : decode cX8_of 8 = .ok (.ifCond .ne 5, 3) := by decide +kernel
theorem dX8_of_11 : decode cX8_of 11 = .ok (.iconst (-1), 1) := by decide +kernel
theorem dX8_of_12 : decode cX8_of 12 = .ok (.ireturn, 1) := by decide +kernel
theorem dX8_of_13 : decode cX8_of 13 = .ok (.iload_n 2, 1) := by decide +kernel
theorem dX8_of_14 : decode cX8_of 14 = .ok (.tableswitch 99 0 5 #[38, 48, 58, 68, 78, 90], 38) := by decide +kernel
theorem dX8_of_52 : decode cX8_of 52 = .ok (.aload_n 0, 1) := by decide +kernel
theorem dX8_of_53 : decode cX8_of 53 = .ok (.getfield 20, 3) := by decide +kernel
theorem dX8_of_56 : decode cX8_of 56 = .ok (.getfield 77, 3) := by decide +kernel
theorem dX8_of_59 : decode cX8_of 59 = .ok (.iload_n 1, 1) := by decide +kernel
theorem dX8_of_60 : decode cX8_of 60 = .ok (.iaload, 1) := by decide +kernel
theorem dX8_of_61 : decode cX8_of 61 = .ok (.ireturn, 1) := by decide +kernel
theorem dX8_of_62 : decode cX8_of 62 = .ok (.aload_n 0, 1) := by decide +kernel
theorem dX8_of_63 : decode cX8_of 63 = .ok (.getfield 20, 3) := by decide +kernel
theorem dX8_of_66 : decode cX8_of 66 = .ok (.getfield 81, 3) := by decide +kernel
theorem dX8_of_69 : decode cX8_of 69 = .ok (.iload_n 1, 1) := by decide +kernel
theorem dX8_of_70 : decode cX8_of 70 = .ok (.iaload, 1) := by decide +kernel
theorem dX8_of_71 : decode cX8_of 71 = .ok (.ireturn, 1) := by decide +kernel
theorem dX8_of_72 : decode cX8_of 72 = .ok (.aload_n 0, 1) := by decide +kernel
theorem dX8_of_73 : decode cX8_of 73 = .ok (.getfield 20, 3) := by decide +kernel
theorem dX8_of_76 : decode cX8_of 76 = .ok (.getfield 84, 3) := by decide +kernel
theorem dX8_of_79 : decode cX8_of 79 = .ok (.iload_n 1, 1) := by decide +kernel
theorem dX8_of_80 : decode cX8_of 80 = .ok (.iaload, 1) := by decide +kernel
theorem dX8_of_81 : decode cX8_of 81 = .ok (.ireturn, 1) := by decide +kernel
theorem dX8_of_82 : decode cX8_of 82 = .ok (.aload_n 0, 1) := by decide +kernel
theorem dX8_of_83 : decode cX8_of 83 = .ok (.getfield 20, 3) := by decide +kernel
theorem dX8_of_86 : decode cX8_of 86 = .ok (.getfield 87, 3) := by decide +kernel
theorem dX8_of_89 : decode cX8_of 89 = .ok (.iload_n 1, 1) := by decide +kernel
theorem dX8_of_90 : decode cX8_of 90 = .ok (.iaload, 1) := by decide +kernel
theorem dX8_of_91 : decode cX8_of 91 = .ok (.ireturn, 1) := by decide +kernel
theorem dX8_of_92 : decode cX8_of 92 = .ok (.aload_n 0, 1) := by decide +kernel
theorem dX8_of_93 : decode cX8_of 93 = .ok (.getfield 10, 3) := by decide +kernel
theorem dX8_of_96 : decode cX8_of 96 = .ok (.invokevirtual 90, 3) := by decide +kernel
theorem dX8_of_99 : decode cX8_of 99 = .ok (.iload_n 1, 1) := by decide +kernel
theorem dX8_of_100 : decode cX8_of 100 = .ok (.ishr, 1) := by decide +kernel
theorem dX8_of_101 : decode cX8_of 101 = .ok (.iconst 1, 1) := by decide +kernel
theorem dX8_of_102 : decode cX8_of 102 = .ok (.iand, 1) := by decide +kernel
theorem dX8_of_103 : decode cX8_of 103 = .ok (.ireturn, 1) := by decide +kernel
theorem dX8_of_104 : decode cX8_of 104 = .ok (.aload_n 0, 1) := by decide +kernel
theorem dX8_of_105 : decode cX8_of 105 = .ok (.getfield 30, 3) := by decide +kernel
theorem dX8_of_108 : decode cX8_of 108 = .ok (.iload_n 1, 1) := by decide +kernel
theorem dX8_of_109 : decode cX8_of 109 = .ok (.invokevirtual 94, 3) := by decide +kernel
theorem dX8_of_112 : decode cX8_of 112 = .ok (.ireturn, 1) := by decide +kernel
theorem dX8_of_113 : decode cX8_of 113 = .ok (.iconst (-1), 1) := by decide +kernel
theorem dX8_of_114 : decode cX8_of 114 = .ok (.ireturn, 1) := by decide +kernel
theorem dX8_source_0 : decode cX8_source 0 = .ok (.iload_n 1, 1) := by decide +kernel
theorem dX8_source_1 : decode cX8_source 1 = .ok (.invokestatic 61, 3) := by decide +kernel
theorem dX8_source_4 : decode cX8_source 4 = .ok (.ifCond .eq 12, 3) := by decide +kernel
theorem dX8_source_7 : decode cX8_source 7 = .ok (.iload_n 2, 1) := by decide +kernel
theorem dX8_source_8 : decode cX8_source 8 = .ok (.ifCond .lt 8, 3) := by decide +kernel
theorem dX8_source_11 : decode cX8_source 11 = .ok (.iload_n 2, 1) := by decide +kernel
theorem dX8_source_12 : decode cX8_source 12 = .ok (.iconst 3, 1) := by decide +kernel
theorem dX8_source_13 : decode cX8_source 13 = .ok (.if_icmp .lt 5, 3) := by decide +kernel
theorem dX8_source_16 : decode cX8_source 16 = .ok (.iconst (-1), 1) := by decide +kernel
theorem dX8_source_17 : decode cX8_source 17 = .ok (.ireturn, 1) := by decide +kernel
theorem dX8_source_18 : decode cX8_source 18 = .ok (.aload_n 0, 1) := by decide +kernel
theorem dX8_source_19 : decode cX8_source 19 = .ok (.getfield 20, 3) := by decide +kernel
theorem dX8_source_22 : decode cX8_source 22 = .ok (.iload_n 1, 1) := by decide +kernel
theorem dX8_source_23 : decode cX8_source 23 = .ok (.iload_n 2, 1) := by decide +kernel
theorem dX8_source_24 : decode cX8_source 24 = .ok (.iload_n 3, 1) := by decide +kernel
theorem dX8_source_25 : decode cX8_source 25 = .ok (.invokevirtual 100, 3) := by decide +kernel
theorem dX8_source_28 : decode cX8_source 28 = .ok (.ifCond .eq 7, 3) := by decide +kernel
theorem dX8_source_31 : decode cX8_source 31 = .ok (.iconst 1, 1) := by decide +kernel
theorem dX8_source_32 : decode cX8_source 32 = .ok (.goto 4, 3) := by decide +kernel
theorem dX8_source_35 : decode cX8_source 35 = .ok (.iconst 0, 1) := by decide +kernel
theorem dX8_source_36 : decode cX8_source 36 = .ok (.ireturn, 1) := by decide +kernel
theorem dX8_turn_0 : decode cX8_turn 0 = .ok (.aload_n 0, 1) := by decide +kernel
theorem dX8_turn_1 : decode cX8_turn 1 = .ok (.getfield 20, 3) := by decide +kernel
theorem dX8_turn_4 : decode cX8_turn 4 = .ok (.iload_n 1, 1) := by decide +kernel
theorem dX8_turn_5 : decode cX8_turn 5 = .ok (.invokevirtual 104, 3) := by decide +kernel
theorem dX8_turn_8 : decode cX8_turn 8 = .ok (.ifCond .ne 5, 3) := by decide +kernel
theorem dX8_turn_11 : decode cX8_turn 11 = .ok (.iconst (-1), 1) := by decide +kernel
theorem dX8_turn_12 : decode cX8_turn 12 = .ok (.ireturn, 1) := by decide +kernel
theorem dX8_turn_13 : decode cX8_turn 13 = .ok (.iload_n 2, 1) := by decide +kernel
theorem dX8_turn_14 : decode cX8_turn 14 = .ok (.ifCond .ne 17, 3) := by decide +kernel
theorem dX8_turn_17 : decode cX8_turn 17 = .ok (.aload_n 0, 1) := by decide +kernel
theorem dX8_turn_18 : decode cX8_turn 18 = .ok (.getfield 30, 3) := by decide +kernel
theorem dX8_turn_21 : decode cX8_turn 21 = .ok (.iload_n 1, 1) := by decide +kernel
theorem dX8_turn_22 : decode cX8_turn 22 = .ok (.invokevirtual 94, 3) := by decide +kernel
theorem dX8_turn_25 : decode cX8_turn 25 = .ok (.ifCond .le 6, 3) := by decide +kernel
theorem dX8_turn_28 : decode cX8_turn 28 = .ok (.bipush (-5), 2) := by decide +kernel
theorem dX8_turn_30 : decode cX8_turn 30 = .ok (.ireturn, 1) := by decide +kernel
theorem dX8_turn_31 : decode cX8_turn 31 = .ok (.aload_n 0, 1) := by decide +kernel
theorem dX8_turn_32 : decode cX8_turn 32 = .ok (.getfield 20, 3) := by decide +kernel
theorem dX8_turn_35 : decode cX8_turn 35 = .ok (.iload_n 1, 1) := by decide +kernel
theorem dX8_turn_36 : decode cX8_turn 36 = .ok (.iload_n 2, 1) := by decide +kernel
theorem dX8_turn_37 : decode cX8_turn 37 = .ok (.invokevirtual 107, 3) := by decide +kernel
theorem dX8_turn_40 : decode cX8_turn 40 = .ok (.ifCond .eq 7, 3) := by decide +kernel
theorem dX8_turn_43 : decode cX8_turn 43 = .ok (.iconst 1, 1) := by decide +kernel
theorem dX8_turn_44 : decode cX8_turn 44 = .ok (.goto 4, 3) := by decide +kernel
theorem dX8_turn_47 : decode cX8_turn 47 = .ok (.iconst 0, 1) := by decide +kernel
theorem dX8_turn_48 : decode cX8_turn 48 = .ok (.ireturn, 1) := by decide +kernel
theorem dX8_safe_0 : decode cX8_safe 0 = .ok (.iload_n 1, 1) := by decide +kernel
theorem dX8_safe_1 : decode cX8_safe 1 = .ok (.invokestatic 61, 3) := by decide +kernel
theorem dX8_safe_4 : decode cX8_safe 4 = .ok (.ifCond .ne 5, 3) := by decide +kernel
theorem dX8_safe_7 : decode cX8_safe 7 = .ok (.iconst (-1), 1) := by decide +kernel
theorem dX8_safe_8 : decode cX8_safe 8 = .ok (.ireturn, 1) := by decide +kernel
theorem dX8_safe_9 : decode cX8_safe 9 = .ok (.aload_n 0, 1) := by decide +kernel
theorem dX8_safe_10 : decode cX8_safe 10 = .ok (.getfield 20, 3) := by decide +kernel
theorem dX8_safe_13 : decode cX8_safe 13 = .ok (.iload_n 1, 1) := by decide +kernel
theorem dX8_safe_14 : decode cX8_safe 14 = .ok (.aload_n 0, 1) := by decide +kernel
theorem dX8_safe_15 : decode cX8_safe 15 = .ok (.getfield 10, 3) := by decide +kernel
theorem dX8_safe_18 : decode cX8_safe 18 = .ok (.invokevirtual 90, 3) := by decide +kernel
theorem dX8_safe_21 : decode cX8_safe 21 = .ok (.aload_n 0, 1) := by decide +kernel
theorem dX8_safe_22 : decode cX8_safe 22 = .ok (.getfield 20, 3) := by decide +kernel
theorem dX8_safe_25 : decode cX8_safe 25 = .ok (.invokevirtual 111, 3) := by decide +kernel
theorem dX8_safe_28 : decode cX8_safe 28 = .ok (.aload_n 0, 1) := by decide +kernel
theorem dX8_safe_29 : decode cX8_safe 29 = .ok (.getfield 25, 3) := by decide +kernel
theorem dX8_safe_32 : decode cX8_safe 32 = .ok (.aload_n 0, 1) := by decide +kernel
theorem dX8_safe_33 : decode cX8_safe 33 = .ok (.getfield 57, 3) := by decide +kernel
theorem dX8_safe_36 : decode cX8_safe 36 = .ok (.invokevirtual 114, 3) := by decide +kernel
theorem dX8_safe_39 : decode cX8_safe 39 = .ok (.invokevirtual 119, 3) := by decide +kernel
theorem dX8_safe_42 : decode cX8_safe 42 = .ok (.ifCond .eq 7, 3) := by decide +kernel
theorem dX8_safe_45 : decode cX8_safe 45 = .ok (.iconst 1, 1) := by decide +kernel
theorem dX8_safe_46 : decode cX8_safe 46 = .ok (.goto 4, 3) := by decide +kernel
theorem dX8_safe_49 : decode cX8_safe 49 = .ok (.iconst 0, 1) := by decide +kernel
theorem dX8_safe_50 : decode cX8_safe 50 = .ok (.ireturn, 1) := by decide +kernel
theorem dX8_barriers_0 : decode cX8_barriers 0 = .ok (.iload_n 1, 1) := by decide +kernel
theorem dX8_barriers_1 : decode cX8_barriers 1 = .ok (.invokestatic 61, 3) := by decide +kernel
theorem dX8_barriers_4 : decode cX8_barriers 4 = .ok (.ifCond .eq 10, 3) := by decide +kernel
theorem dX8_barriers_7 : decode cX8_barriers 7 = .ok (.iload_n 2, 1) := by decide +kernel
theorem dX8_barriers_8 : decode cX8_barriers 8 = .ok (.invokestatic 61, 3) := by decide +kernel
theorem dX8_barriers_11 : decode cX8_barriers 11 = .ok (.ifCond .ne 5, 3) := by decide +kernel
theorem dX8_barriers_14 : decode cX8_barriers 14 = .ok (.iconst (-1), 1) := by decide +kernel
theorem dX8_barriers_15 : decode cX8_barriers 15 = .ok (.ireturn, 1) := by decide +kernel
theorem dX8_barriers_16 : decode cX8_barriers 16 = .ok (.aload_n 0, 1) := by decide +kernel
theorem dX8_barriers_17 : decode cX8_barriers 17 = .ok (.getfield 20, 3) := by decide +kernel
theorem dX8_barriers_20 : decode cX8_barriers 20 = .ok (.iload_n 1, 1) := by decide +kernel
theorem dX8_barriers_21 : decode cX8_barriers 21 = .ok (.iload_n 2, 1) := by decide +kernel
theorem dX8_barriers_22 : decode cX8_barriers 22 = .ok (.aload_n 0, 1) := by decide +kernel
theorem dX8_barriers_23 : decode cX8_barriers 23 = .ok (.getfield 10, 3) := by decide +kernel
theorem dX8_barriers_26 : decode cX8_barriers 26 = .ok (.invokevirtual 90, 3) := by decide +kernel
theorem dX8_barriers_29 : decode cX8_barriers 29 = .ok (.invokevirtual 123, 3) := by decide +kernel
theorem dX8_barriers_32 : decode cX8_barriers 32 = .ok (.ireturn, 1) := by decide +kernel
theorem dX8_apart_0 : decode cX8_apart 0 = .ok (.iload_n 1, 1) := by decide +kernel
theorem dX8_apart_1 : decode cX8_apart 1 = .ok (.invokestatic 61, 3) := by decide +kernel
theorem dX8_apart_4 : decode cX8_apart 4 = .ok (.ifCond .eq 10, 3) := by decide +kernel
theorem dX8_apart_7 : decode cX8_apart 7 = .ok (.iload_n 2, 1) := by decide +kernel
theorem dX8_apart_8 : decode cX8_apart 8 = .ok (.invokestatic 61, 3) := by decide +kernel
theorem dX8_apart_11 : decode cX8_apart 11 = .ok (.ifCond .ne 5, 3) := by decide +kernel
theorem dX8_apart_14 : decode cX8_apart 14 = .ok (.iconst (-1), 1) := by decide +kernel
theorem dX8_apart_15 : decode cX8_apart 15 = .ok (.ireturn, 1) := by decide +kernel
theorem dX8_apart_16 : decode cX8_apart 16 = .ok (.aload_n 0, 1) := by decide +kernel
theorem dX8_apart_17 : decode cX8_apart 17 = .ok (.getfield 20, 3) := by decide +kernel
theorem dX8_apart_20 : decode cX8_apart 20 = .ok (.iload_n 1, 1) := by decide +kernel
theorem dX8_apart_21 : decode cX8_apart 21 = .ok (.iload_n 2, 1) := by decide +kernel
theorem dX8_apart_22 : decode cX8_apart 22 = .ok (.invokevirtual 127, 3) := by decide +kernel
theorem dX8_apart_25 : decode cX8_apart 25 = .ok (.ireturn, 1) := by decide +kernel
theorem dX8_go_0 : decode cX8_go 0 = .ok (.iload_n 1, 1) := by decide +kernel
theorem dX8_go_1 : decode cX8_go 1 = .ok (.iconst 1, 1) := by decide +kernel
theorem dX8_go_2 : decode cX8_go 2 = .ok (.if_icmp .lt 21, 3) := by decide +kernel
theorem dX8_go_5 : decode cX8_go 5 = .ok (.iload_n 1, 1) := by decide +kernel
theorem dX8_go_6 : decode cX8_go 6 = .ok (.bipush 48, 2) := by decide +kernel
theorem dX8_go_8 : decode cX8_go 8 = .ok (.if_icmp .gt 15, 3) := by decide +kernel
theorem dX8_go_11 : decode cX8_go 11 = .ok (.aload_n 0, 1) := by decide +kernel
theorem dX8_go_12 : decode cX8_go 12 = .ok (.getfield 57, 3) := by decide +kernel
theorem dX8_go_15 : decode cX8_go 15 = .ok (.iload_n 1, 1) := by decide +kernel
theorem dX8_go_16 : decode cX8_go 16 = .ok (.iadd, 1) := by decide +kernel
theorem dX8_go_17 : decode cX8_go 17 = .ok (.sipush 300, 3) := by decide +kernel
theorem dX8_go_20 : decode cX8_go 20 = .ok (.if_icmp .le 5, 3) := by decide +kernel
theorem dX8_go_23 : decode cX8_go 23 = .ok (.iconst (-1), 1) := by decide +kernel
theorem dX8_go_24 : decode cX8_go 24 = .ok (.ireturn, 1) := by decide +kernel
theorem dX8_go_25 : decode cX8_go 25 = .ok (.aload_n 0, 1) := by decide +kernel
theorem dX8_go_26 : decode cX8_go 26 = .ok (.getfield 46, 3) := by decide +kernel
theorem dX8_go_29 : decode cX8_go 29 = .ok (.aload_n 0, 1) := by decide +kernel
theorem dX8_go_30 : decode cX8_go 30 = .ok (.getfield 57, 3) := by decide +kernel
theorem dX8_go_33 : decode cX8_go 33 = .ok (.aload_n 0, 1) := by decide +kernel
theorem dX8_go_34 : decode cX8_go 34 = .ok (.getfield 57, 3) := by decide +kernel
theorem dX8_go_37 : decode cX8_go 37 = .ok (.iload_n 1, 1) := by decide +kernel
theorem dX8_go_38 : decode cX8_go 38 = .ok (.iadd, 1) := by decide +kernel
theorem dX8_go_39 : decode cX8_go 39 = .ok (.aload_n 0, 1) := by decide +kernel
theorem dX8_go_40 : decode cX8_go 40 = .ok (.getfield 10, 3) := by decide +kernel
theorem dX8_go_43 : decode cX8_go 43 = .ok (.invokevirtual 90, 3) := by decide +kernel
theorem dX8_go_46 : decode cX8_go 46 = .ok (.aload_n 0, 1) := by decide +kernel
theorem dX8_go_47 : decode cX8_go 47 = .ok (.getfield 30, 3) := by decide +kernel
theorem dX8_go_50 : decode cX8_go 50 = .ok (.iconst 3, 1) := by decide +kernel
theorem dX8_go_51 : decode cX8_go 51 = .ok (.invokevirtual 131, 3) := by decide +kernel
theorem dX8_go_54 : decode cX8_go 54 = .ok (.invokevirtual 134, 3) := by decide +kernel
theorem dX8_go_57 : decode cX8_go 57 = .ok (.aload_n 0, 1) := by decide +kernel
theorem dX8_go_58 : decode cX8_go 58 = .ok (.dup, 1) := by decide +kernel
theorem dX8_go_59 : decode cX8_go 59 = .ok (.getfield 57, 3) := by decide +kernel
theorem dX8_go_62 : decode cX8_go 62 = .ok (.iload_n 1, 1) := by decide +kernel
theorem dX8_go_63 : decode cX8_go 63 = .ok (.iadd, 1) := by decide +kernel
theorem dX8_go_64 : decode cX8_go 64 = .ok (.putfield 57, 3) := by decide +kernel
theorem dX8_go_67 : decode cX8_go 67 = .ok (.aload_n 0, 1) := by decide +kernel
theorem dX8_go_68 : decode cX8_go 68 = .ok (.getfield 57, 3) := by decide +kernel
theorem dX8_go_71 : decode cX8_go 71 = .ok (.ireturn, 1) := by decide +kernel
theorem dX8_feed_0 : decode cX8_feed 0 = .ok (.iload_n 3, 1) := by decide +kernel
theorem dX8_feed_1 : decode cX8_feed 1 = .ok (.iconst 1, 1) := by decide +kernel
theorem dX8_feed_2 : decode cX8_feed 2 = .ok (.if_icmp .lt 9, 3) := by decide +kernel
theorem dX8_feed_5 : decode cX8_feed 5 = .ok (.iload_n 3, 1) := by decide +kernel
theorem dX8_feed_6 : decode cX8_feed 6 = .ok (.bipush 8, 2) := by decide +kernel
theorem dX8_feed_8 : decode cX8_feed 8 = .ok (.if_icmp .le 5, 3) := by decide +kernel
theorem dX8_feed_11 : decode cX8_feed 11 = .ok (.iconst (-1), 1) := by decide +kernel
theorem dX8_feed_12 : decode cX8_feed 12 = .ok (.ireturn, 1) := by decide +kernel
theorem dX8_feed_13 : decode cX8_feed 13 = .ok (.aload_n 0, 1) := by decide +kernel
theorem dX8_feed_14 : decode cX8_feed 14 = .ok (.getfield 39, 3) := by decide +kernel
theorem dX8_feed_17 : decode cX8_feed 17 = .ok (.getfield 138, 3) := by decide +kernel
theorem dX8_feed_20 : decode cX8_feed 20 = .ok (.iload_n 3, 1) := by decide +kernel
theorem dX8_feed_21 : decode cX8_feed 21 = .ok (.iadd, 1) := by decide +kernel
theorem dX8_feed_22 : decode cX8_feed 22 = .ok (.bipush 60, 2) := by decide +kernel
theorem dX8_feed_24 : decode cX8_feed 24 = .ok (.if_icmp .le 6, 3) := by decide +kernel
theorem dX8_feed_27 : decode cX8_feed 27 = .ok (.bipush (-2), 2) := by decide +kernel
theorem dX8_feed_29 : decode cX8_feed 29 = .ok (.ireturn, 1) := by decide +kernel
theorem dX8_feed_30 : decode cX8_feed 30 = .ok (.aload_n 0, 1) := by decide +kernel
theorem dX8_feed_31 : decode cX8_feed 31 = .ok (.getfield 39, 3) := by decide +kernel
theorem dX8_feed_34 : decode cX8_feed 34 = .ok (.lload_n 1, 1) := by decide +kernel
theorem dX8_feed_35 : decode cX8_feed 35 = .ok (.iload_n 3, 1) := by decide +kernel
theorem dX8_feed_36 : decode cX8_feed 36 = .ok (.invokevirtual 141, 3) := by decide +kernel
theorem dX8_feed_39 : decode cX8_feed 39 = .ok (.aload_n 0, 1) := by decide +kernel
theorem dX8_feed_40 : decode cX8_feed 40 = .ok (.getfield 39, 3) := by decide +kernel
theorem dX8_feed_43 : decode cX8_feed 43 = .ok (.getfield 138, 3) := by decide +kernel
theorem dX8_feed_46 : decode cX8_feed 46 = .ok (.ireturn, 1) := by decide +kernel
theorem dX8_rule_0 : decode cX8_rule 0 = .ok (.aload_n 0, 1) := by decide +kernel
theorem dX8_rule_1 : decode cX8_rule 1 = .ok (.getfield 39, 3) := by decide +kernel
theorem dX8_rule_4 : decode cX8_rule 4 = .ok (.invokevirtual 145, 3) := by decide +kernel
theorem dX8_rule_7 : decode cX8_rule 7 = .ok (.istore_n 1, 1) := by decide +kernel
theorem dX8_rule_8 : decode cX8_rule 8 = .ok (.aload_n 0, 1) := by decide +kernel
theorem dX8_rule_9 : decode cX8_rule 9 = .ok (.getfield 39, 3) := by decide +kernel
theorem dX8_rule_12 : decode cX8_rule 12 = .ok (.invokevirtual 148, 3) := by decide +kernel
theorem dX8_rule_15 : decode cX8_rule 15 = .ok (.iload_n 1, 1) := by decide +kernel
theorem dX8_rule_16 : decode cX8_rule 16 = .ok (.bipush (-3), 2) := by decide +kernel
theorem dX8_rule_18 : decode cX8_rule 18 = .ok (.if_icmp .eq 8, 3) := by decide +kernel
theorem dX8_rule_21 : decode cX8_rule 21 = .ok (.bipush (-100), 2) := by decide +kernel
theorem dX8_rule_23 : decode cX8_rule 23 = .ok (.iload_n 1, 1) := by decide +kernel
theorem dX8_rule_24 : decode cX8_rule 24 = .ok (.isub, 1) := by decide +kernel
theorem dX8_rule_25 : decode cX8_rule 25 = .ok (.ireturn, 1) := by decide +kernel
theorem dX8_rule_26 : decode cX8_rule 26 = .ok (.aload_n 0, 1) := by decide +kernel
theorem dX8_rule_27 : decode cX8_rule 27 = .ok (.getfield 25, 3) := by decide +kernel
theorem dX8_rule_30 : decode cX8_rule 30 = .ok (.getfield 151, 3) := by decide +kernel
theorem dX8_rule_33 : decode cX8_rule 33 = .ok (.bipush 12, 2) := by decide +kernel
theorem dX8_rule_35 : decode cX8_rule 35 = .ok (.if_icmp .lt 6, 3) := by decide +kernel
theorem dX8_rule_38 : decode cX8_rule 38 = .ok (.bipush (-2), 2) := by decide +kernel
theorem dX8_rule_40 : decode cX8_rule 40 = .ok (.ireturn, 1) := by decide +kernel
theorem dX8_rule_41 : decode cX8_rule 41 = .ok (.aload_n 0, 1) := by decide +kernel
theorem dX8_rule_42 : decode cX8_rule 42 = .ok (.getfield 25, 3) := by decide +kernel
theorem dX8_rule_45 : decode cX8_rule 45 = .ok (.aload_n 0, 1) := by decide +kernel
theorem dX8_rule_46 : decode cX8_rule 46 = .ok (.getfield 39, 3) := by decide +kernel
theorem dX8_rule_49 : decode cX8_rule 49 = .ok (.aload_n 0, 1) := by decide +kernel
theorem dX8_rule_50 : decode cX8_rule 50 = .ok (.getfield 57, 3) := by decide +kernel
theorem dX8_rule_53 : decode cX8_rule 53 = .ok (.invokevirtual 152, 3) := by decide +kernel
theorem dX8_rule_56 : decode cX8_rule 56 = .ok (.ireturn, 1) := by decide +kernel
theorem dX8_strike_0 : decode cX8_strike 0 = .ok (.aload_n 0, 1) := by decide +kernel
theorem dX8_strike_1 : decode cX8_strike 1 = .ok (.getfield 25, 3) := by decide +kernel
theorem dX8_strike_4 : decode cX8_strike 4 = .ok (.iload_n 1, 1) := by decide +kernel
theorem dX8_strike_5 : decode cX8_strike 5 = .ok (.invokevirtual 156, 3) := by decide +kernel
theorem dX8_strike_8 : decode cX8_strike 8 = .ok (.ifCond .ne 5, 3) := by decide +kernel
theorem dX8_strike_11 : decode cX8_strike 11 = .ok (.iconst (-1), 1) := by decide +kernel
theorem dX8_strike_12 : decode cX8_strike 12 = .ok (.ireturn, 1) := by decide +kernel
theorem dX8_strike_13 : decode cX8_strike 13 = .ok (.aload_n 0, 1) := by decide +kernel
theorem dX8_strike_14 : decode cX8_strike 14 = .ok (.getfield 25, 3) := by decide +kernel
theorem dX8_strike_17 : decode cX8_strike 17 = .ok (.getfield 157, 3) := by decide +kernel
theorem dX8_strike_20 : decode cX8_strike 20 = .ok (.iload_n 1, 1) := by decide +kernel
theorem dX8_strike_21 : decode cX8_strike 21 = .ok (.iaload, 1) := by decide +kernel
theorem dX8_strike_22 : decode cX8_strike 22 = .ok (.bipush (-3), 2) := by decide +kernel
theorem dX8_strike_24 : decode cX8_strike 24 = .ok (.if_icmp .eq 6, 3) := by decide +kernel
theorem dX8_strike_27 : decode cX8_strike 27 = .ok (.bipush (-4), 2) := by decide +kernel
theorem dX8_strike_29 : decode cX8_strike 29 = .ok (.ireturn, 1) := by decide +kernel
theorem dX8_strike_30 : decode cX8_strike 30 = .ok (.aload_n 0, 1) := by decide +kernel
theorem dX8_strike_31 : decode cX8_strike 31 = .ok (.getfield 25, 3) := by decide +kernel
theorem dX8_strike_34 : decode cX8_strike 34 = .ok (.getfield 157, 3) := by decide +kernel
theorem dX8_strike_37 : decode cX8_strike 37 = .ok (.iload_n 1, 1) := by decide +kernel
theorem dX8_strike_38 : decode cX8_strike 38 = .ok (.aload_n 0, 1) := by decide +kernel
theorem dX8_strike_39 : decode cX8_strike 39 = .ok (.getfield 57, 3) := by decide +kernel
theorem dX8_strike_42 : decode cX8_strike 42 = .ok (.iastore, 1) := by decide +kernel
theorem dX8_strike_43 : decode cX8_strike 43 = .ok (.iconst 1, 1) := by decide +kernel
theorem dX8_strike_44 : decode cX8_strike 44 = .ok (.ireturn, 1) := by decide +kernel
theorem dX8_ruleOf_0 : decode cX8_ruleOf 0 = .ok (.aload_n 0, 1) := by decide +kernel
theorem dX8_ruleOf_1 : decode cX8_ruleOf 1 = .ok (.getfield 25, 3) := by decide +kernel
theorem dX8_ruleOf_4 : decode cX8_ruleOf 4 = .ok (.iload_n 1, 1) := by decide +kernel
theorem dX8_ruleOf_5 : decode cX8_ruleOf 5 = .ok (.invokevirtual 156, 3) := by decide +kernel
theorem dX8_ruleOf_8 : decode cX8_ruleOf 8 = .ok (.ifCond .ne 5, 3) := by decide +kernel
theorem dX8_ruleOf_11 : decode cX8_ruleOf 11 = .ok (.iconst (-1), 1) := by decide +kernel
theorem dX8_ruleOf_12 : decode cX8_ruleOf 12 = .ok (.ireturn, 1) := by decide +kernel
theorem dX8_ruleOf_13 : decode cX8_ruleOf 13 = .ok (.iload_n 2, 1) := by decide +kernel
theorem dX8_ruleOf_14 : decode cX8_ruleOf 14 = .ok (.tableswitch 95 0 4 #[34, 44, 54, 64, 74], 34) := by decide +kernel
theorem dX8_ruleOf_48 : decode cX8_ruleOf 48 = .ok (.aload_n 0, 1) := by decide +kernel
theorem dX8_ruleOf_49 : decode cX8_ruleOf 49 = .ok (.getfield 25, 3) := by decide +kernel
theorem dX8_ruleOf_52 : decode cX8_ruleOf 52 = .ok (.getfield 160, 3) := by decide +kernel
theorem dX8_ruleOf_55 : decode cX8_ruleOf 55 = .ok (.iload_n 1, 1) := by decide +kernel
theorem dX8_ruleOf_56 : decode cX8_ruleOf 56 = .ok (.iaload, 1) := by decide +kernel
theorem dX8_ruleOf_57 : decode cX8_ruleOf 57 = .ok (.ireturn, 1) := by decide +kernel
theorem dX8_ruleOf_58 : decode cX8_ruleOf 58 = .ok (.aload_n 0, 1) := by decide +kernel
theorem dX8_ruleOf_59 : decode cX8_ruleOf 59 = .ok (.getfield 25, 3) := by decide +kernel
theorem dX8_ruleOf_62 : decode cX8_ruleOf 62 = .ok (.getfield 163, 3) := by decide +kernel
theorem dX8_ruleOf_65 : decode cX8_ruleOf 65 = .ok (.iload_n 1, 1) := by decide +kernel
theorem dX8_ruleOf_66 : decode cX8_ruleOf 66 = .ok (.iaload, 1) := by decide +kernel
theorem dX8_ruleOf_67 : decode cX8_ruleOf 67 = .ok (.ireturn, 1) := by decide +kernel
theorem dX8_ruleOf_68 : decode cX8_ruleOf 68 = .ok (.aload_n 0, 1) := by decide +kernel
theorem dX8_ruleOf_69 : decode cX8_ruleOf 69 = .ok (.getfield 25, 3) := by decide +kernel
theorem dX8_ruleOf_72 : decode cX8_ruleOf 72 = .ok (.getfield 166, 3) := by decide +kernel
theorem dX8_ruleOf_75 : decode cX8_ruleOf 75 = .ok (.iload_n 1, 1) := by decide +kernel
theorem dX8_ruleOf_76 : decode cX8_ruleOf 76 = .ok (.iaload, 1) := by decide +kernel
theorem dX8_ruleOf_77 : decode cX8_ruleOf 77 = .ok (.ireturn, 1) := by decide +kernel
theorem dX8_ruleOf_78 : decode cX8_ruleOf 78 = .ok (.aload_n 0, 1) := by decide +kernel
theorem dX8_ruleOf_79 : decode cX8_ruleOf 79 = .ok (.getfield 25, 3) := by decide +kernel
theorem dX8_ruleOf_82 : decode cX8_ruleOf 82 = .ok (.getfield 169, 3) := by decide +kernel
theorem dX8_ruleOf_85 : decode cX8_ruleOf 85 = .ok (.iload_n 1, 1) := by decide +kernel
theorem dX8_ruleOf_86 : decode cX8_ruleOf 86 = .ok (.iaload, 1) := by decide +kernel
theorem dX8_ruleOf_87 : decode cX8_ruleOf 87 = .ok (.ireturn, 1) := by decide +kernel
theorem dX8_ruleOf_88 : decode cX8_ruleOf 88 = .ok (.aload_n 0, 1) := by decide +kernel
theorem dX8_ruleOf_89 : decode cX8_ruleOf 89 = .ok (.getfield 25, 3) := by decide +kernel
theorem dX8_ruleOf_92 : decode cX8_ruleOf 92 = .ok (.iload_n 1, 1) := by decide +kernel
theorem dX8_ruleOf_93 : decode cX8_ruleOf 93 = .ok (.aload_n 0, 1) := by decide +kernel
theorem dX8_ruleOf_94 : decode cX8_ruleOf 94 = .ok (.getfield 57, 3) := by decide +kernel
theorem dX8_ruleOf_97 : decode cX8_ruleOf 97 = .ok (.invokevirtual 172, 3) := by decide +kernel
theorem dX8_ruleOf_100 : decode cX8_ruleOf 100 = .ok (.ifCond .eq 7, 3) := by decide +kernel
theorem dX8_ruleOf_103 : decode cX8_ruleOf 103 = .ok (.iconst 1, 1) := by decide +kernel
theorem dX8_ruleOf_104 : decode cX8_ruleOf 104 = .ok (.goto 4, 3) := by decide +kernel
theorem dX8_ruleOf_107 : decode cX8_ruleOf 107 = .ok (.iconst 0, 1) := by decide +kernel
theorem dX8_ruleOf_108 : decode cX8_ruleOf 108 = .ok (.ireturn, 1) := by decide +kernel
theorem dX8_ruleOf_109 : decode cX8_ruleOf 109 = .ok (.iconst (-1), 1) := by decide +kernel
theorem dX8_ruleOf_110 : decode cX8_ruleOf 110 = .ok (.ireturn, 1) := by decide +kernel
theorem dX8_ask_0 : decode cX8_ask 0 = .ok (.iload_n 1, 1) := by decide +kernel
theorem dX8_ask_1 : decode cX8_ask 1 = .ok (.invokestatic 61, 3) := by decide +kernel
theorem dX8_ask_4 : decode cX8_ask 4 = .ok (.ifCond .eq 26, 3) := by decide +kernel
theorem dX8_ask_7 : decode cX8_ask 7 = .ok (.iload_n 2, 1) := by decide +kernel
theorem dX8_ask_8 : decode cX8_ask 8 = .ok (.ifCond .lt 22, 3) := by decide +kernel
theorem dX8_ask_11 : decode cX8_ask 11 = .ok (.iload_n 2, 1) := by decide +kernel
theorem dX8_ask_12 : decode cX8_ask 12 = .ok (.iconst 3, 1) := by decide +kernel
theorem dX8_ask_13 : decode cX8_ask 13 = .ok (.if_icmp .ge 17, 3) := by decide +kernel
theorem dX8_ask_16 : decode cX8_ask 16 = .ok (.iload_n 3, 1) := by decide +kernel
theorem dX8_ask_17 : decode cX8_ask 17 = .ok (.aload_n 0, 1) := by decide +kernel
theorem dX8_ask_18 : decode cX8_ask 18 = .ok (.getfield 20, 3) := by decide +kernel
theorem dX8_ask_21 : decode cX8_ask 21 = .ok (.invokevirtual 176, 3) := by decide +kernel
theorem dX8_ask_24 : decode cX8_ask 24 = .ok (.iconst (-1), 1) := by decide +kernel
theorem dX8_ask_25 : decode cX8_ask 25 = .ok (.ixor, 1) := by decide +kernel
theorem dX8_ask_26 : decode cX8_ask 26 = .ok (.iand, 1) := by decide +kernel
theorem dX8_ask_27 : decode cX8_ask 27 = .ok (.ifCond .eq 5, 3) := by decide +kernel
theorem dX8_ask_30 : decode cX8_ask 30 = .ok (.iconst (-1), 1) := by decide +kernel
theorem dX8_ask_31 : decode cX8_ask 31 = .ok (.ireturn, 1) := by decide +kernel
theorem dX8_ask_32 : decode cX8_ask 32 = .ok (.aload_n 0, 1) := by decide +kernel
theorem dX8_ask_33 : decode cX8_ask 33 = .ok (.getfield 30, 3) := by decide +kernel
theorem dX8_ask_36 : decode cX8_ask 36 = .ok (.getfield 179, 3) := by decide +kernel
theorem dX8_ask_39 : decode cX8_ask 39 = .ok (.bipush 7, 2) := by decide +kernel
theorem dX8_ask_41 : decode cX8_ask 41 = .ok (.if_icmp .lt 6, 3) := by decide +kernel
theorem dX8_ask_44 : decode cX8_ask 44 = .ok (.bipush (-2), 2) := by decide +kernel
theorem dX8_ask_46 : decode cX8_ask 46 = .ok (.ireturn, 1) := by decide +kernel
theorem dX8_ask_47 : decode cX8_ask 47 = .ok (.aload_n 0, 1) := by decide +kernel
theorem dX8_ask_48 : decode cX8_ask 48 = .ok (.getfield 30, 3) := by decide +kernel
theorem dX8_ask_51 : decode cX8_ask 51 = .ok (.iload_n 1, 1) := by decide +kernel
theorem dX8_ask_52 : decode cX8_ask 52 = .ok (.iload_n 2, 1) := by decide +kernel
theorem dX8_ask_53 : decode cX8_ask 53 = .ok (.iload_n 3, 1) := by decide +kernel
theorem dX8_ask_54 : decode cX8_ask 54 = .ok (.invokevirtual 180, 3) := by decide +kernel
theorem dX8_ask_57 : decode cX8_ask 57 = .ok (.ireturn, 1) := by decide +kernel
theorem dX8_hold_0 : decode cX8_hold 0 = .ok (.aload_n 0, 1) := by decide +kernel
theorem dX8_hold_1 : decode cX8_hold 1 = .ok (.getfield 30, 3) := by decide +kernel
theorem dX8_hold_4 : decode cX8_hold 4 = .ok (.iload_n 1, 1) := by decide +kernel
theorem dX8_hold_5 : decode cX8_hold 5 = .ok (.invokevirtual 182, 3) := by decide +kernel
theorem dX8_hold_8 : decode cX8_hold 8 = .ok (.ifCond .eq 15, 3) := by decide +kernel
theorem dX8_hold_11 : decode cX8_hold 11 = .ok (.iload_n 2, 1) := by decide +kernel
theorem dX8_hold_12 : decode cX8_hold 12 = .ok (.iconst (-1), 1) := by decide +kernel
theorem dX8_hold_13 : decode cX8_hold 13 = .ok (.if_icmp .eq 13, 3) := by decide +kernel
theorem dX8_hold_16 : decode cX8_hold 16 = .ok (.iload_n 2, 1) := by decide +kernel
theorem dX8_hold_17 : decode cX8_hold 17 = .ok (.invokestatic 183, 3) := by decide +kernel
theorem dX8_hold_20 : decode cX8_hold 20 = .ok (.ifCond .ne 6, 3) := by decide +kernel
theorem dX8_hold_23 : decode cX8_hold 23 = .ok (.bipush (-9), 2) := by decide +kernel
theorem dX8_hold_25 : decode cX8_hold 25 = .ok (.ireturn, 1) := by decide +kernel
theorem dX8_hold_26 : decode cX8_hold 26 = .ok (.aload_n 0, 1) := by decide +kernel
theorem dX8_hold_27 : decode cX8_hold 27 = .ok (.getfield 30, 3) := by decide +kernel
theorem dX8_hold_30 : decode cX8_hold 30 = .ok (.getfield 186, 3) := by decide +kernel
theorem dX8_hold_33 : decode cX8_hold 33 = .ok (.iload_n 1, 1) := by decide +kernel
theorem dX8_hold_34 : decode cX8_hold 34 = .ok (.iaload, 1) := by decide +kernel
theorem dX8_hold_35 : decode cX8_hold 35 = .ok (.istore_n 3, 1) := by decide +kernel
theorem dX8_hold_36 : decode cX8_hold 36 = .ok (.iload_n 3, 1) := by decide +kernel
theorem dX8_hold_37 : decode cX8_hold 37 = .ok (.iconst 5, 1) := by decide +kernel
theorem dX8_hold_38 : decode cX8_hold 38 = .ok (.if_icmp .eq 19, 3) := by decide +kernel
theorem dX8_hold_41 : decode cX8_hold 41 = .ok (.iload_n 3, 1) := by decide +kernel
theorem dX8_hold_42 : decode cX8_hold 42 = .ok (.iconst 3, 1) := by decide +kernel
theorem dX8_hold_43 : decode cX8_hold 43 = .ok (.if_icmp .ne 17, 3) := by decide +kernel
theorem dX8_hold_46 : decode cX8_hold 46 = .ok (.aload_n 0, 1) := by decide +kernel
theorem dX8_hold_47 : decode cX8_hold 47 = .ok (.getfield 35, 3) := by decide +kernel
theorem dX8_hold_50 : decode cX8_hold 50 = .ok (.iload_n 2, 1) := by decide +kernel
theorem dX8_hold_51 : decode cX8_hold 51 = .ok (.invokevirtual 189, 3) := by decide +kernel
theorem dX8_hold_54 : decode cX8_hold 54 = .ok (.ifCond .ne 6, 3) := by decide +kernel
theorem dX8_hold_57 : decode cX8_hold 57 = .ok (.bipush (-4), 2) := by decide +kernel
theorem dX8_hold_59 : decode cX8_hold 59 = .ok (.ireturn, 1) := by decide +kernel
theorem dX8_hold_60 : decode cX8_hold 60 = .ok (.aload_n 0, 1) := by decide +kernel
theorem dX8_hold_61 : decode cX8_hold 61 = .ok (.getfield 30, 3) := by decide +kernel
theorem dX8_hold_64 : decode cX8_hold 64 = .ok (.getfield 194, 3) := by decide +kernel
theorem dX8_hold_67 : decode cX8_hold 67 = .ok (.iload_n 1, 1) := by decide +kernel
theorem dX8_hold_68 : decode cX8_hold 68 = .ok (.iaload, 1) := by decide +kernel
theorem dX8_hold_69 : decode cX8_hold 69 = .ok (.istore 4, 2) := by decide +kernel
theorem dX8_hold_71 : decode cX8_hold 71 = .ok (.aload_n 0, 1) := by decide +kernel
theorem dX8_hold_72 : decode cX8_hold 72 = .ok (.getfield 30, 3) := by decide +kernel
theorem dX8_hold_75 : decode cX8_hold 75 = .ok (.getfield 194, 3) := by decide +kernel
theorem dX8_hold_78 : decode cX8_hold 78 = .ok (.iload_n 1, 1) := by decide +kernel
theorem dX8_hold_79 : decode cX8_hold 79 = .ok (.iload_n 2, 1) := by decide +kernel
theorem dX8_hold_80 : decode cX8_hold 80 = .ok (.iastore, 1) := by decide +kernel
theorem dX8_hold_81 : decode cX8_hold 81 = .ok (.iload 4, 2) := by decide +kernel
theorem dX8_hold_83 : decode cX8_hold 83 = .ok (.ireturn, 1) := by decide +kernel
theorem dX8_isolate_0 : decode cX8_isolate 0 = .ok (.aload_n 0, 1) := by decide +kernel
theorem dX8_isolate_1 : decode cX8_isolate 1 = .ok (.iload_n 1, 1) := by decide +kernel
theorem dX8_isolate_2 : decode cX8_isolate 2 = .ok (.iconst 0, 1) := by decide +kernel
theorem dX8_isolate_3 : decode cX8_isolate 3 = .ok (.invokevirtual 197, 3) := by decide +kernel
theorem dX8_isolate_6 : decode cX8_isolate 6 = .ok (.istore_n 2, 1) := by decide +kernel
theorem dX8_isolate_7 : decode cX8_isolate 7 = .ok (.iload_n 2, 1) := by decide +kernel
theorem dX8_isolate_8 : decode cX8_isolate 8 = .ok (.ifCond .ge 5, 3) := by decide +kernel
theorem dX8_isolate_11 : decode cX8_isolate 11 = .ok (.iload_n 2, 1) := by decide +kernel
theorem dX8_isolate_12 : decode cX8_isolate 12 = .ok (.ireturn, 1) := by decide +kernel
theorem dX8_isolate_13 : decode cX8_isolate 13 = .ok (.aload_n 0, 1) := by decide +kernel
theorem dX8_isolate_14 : decode cX8_isolate 14 = .ok (.getfield 10, 3) := by decide +kernel
theorem dX8_isolate_17 : decode cX8_isolate 17 = .ok (.invokevirtual 90, 3) := by decide +kernel
theorem dX8_isolate_20 : decode cX8_isolate 20 = .ok (.istore_n 3, 1) := by decide +kernel
theorem dX8_isolate_21 : decode cX8_isolate 21 = .ok (.aload_n 0, 1) := by decide +kernel
theorem dX8_isolate_22 : decode cX8_isolate 22 = .ok (.getfield 30, 3) := by decide +kernel
theorem dX8_isolate_25 : decode cX8_isolate 25 = .ok (.getfield 186, 3) := by decide +kernel
theorem dX8_isolate_28 : decode cX8_isolate 28 = .ok (.iload_n 1, 1) := by decide +kernel
theorem dX8_isolate_29 : decode cX8_isolate 29 = .ok (.iconst 1, 1) := by decide +kernel
theorem dX8_isolate_30 : decode cX8_isolate 30 = .ok (.iastore, 1) := by decide +kernel
theorem dX8_isolate_31 : decode cX8_isolate 31 = .ok (.aload_n 0, 1) := by decide +kernel
theorem dX8_isolate_32 : decode cX8_isolate 32 = .ok (.getfield 10, 3) := by decide +kernel
theorem dX8_isolate_35 : decode cX8_isolate 35 = .ok (.invokevirtual 90, 3) := by decide +kernel
theorem dX8_isolate_38 : decode cX8_isolate 38 = .ok (.iload_n 3, 1) := by decide +kernel
theorem dX8_isolate_39 : decode cX8_isolate 39 = .ok (.iconst (-1), 1) := by decide +kernel
theorem dX8_isolate_40 : decode cX8_isolate 40 = .ok (.ixor, 1) := by decide +kernel
theorem dX8_isolate_41 : decode cX8_isolate 41 = .ok (.iand, 1) := by decide +kernel
theorem dX8_isolate_42 : decode cX8_isolate 42 = .ok (.invokestatic 200, 3) := by decide +kernel
theorem dX8_isolate_45 : decode cX8_isolate 45 = .ok (.ireturn, 1) := by decide +kernel
theorem dX8_test_0 : decode cX8_test 0 = .ok (.iload_n 2, 1) := by decide +kernel
theorem dX8_test_1 : decode cX8_test 1 = .ok (.ifCond .lt 9, 3) := by decide +kernel
theorem dX8_test_4 : decode cX8_test 4 = .ok (.iload_n 2, 1) := by decide +kernel
theorem dX8_test_5 : decode cX8_test 5 = .ok (.bipush 100, 2) := by decide +kernel
theorem dX8_test_7 : decode cX8_test 7 = .ok (.if_icmp .le 5, 3) := by decide +kernel
theorem dX8_test_10 : decode cX8_test 10 = .ok (.iconst (-1), 1) := by decide +kernel
theorem dX8_test_11 : decode cX8_test 11 = .ok (.ireturn, 1) := by decide +kernel
theorem dX8_test_12 : decode cX8_test 12 = .ok (.aload_n 0, 1) := by decide +kernel
theorem dX8_test_13 : decode cX8_test 13 = .ok (.iload_n 1, 1) := by decide +kernel
theorem dX8_test_14 : decode cX8_test 14 = .ok (.iconst 1, 1) := by decide +kernel
theorem dX8_test_15 : decode cX8_test 15 = .ok (.invokevirtual 197, 3) := by decide +kernel
theorem dX8_test_18 : decode cX8_test 18 = .ok (.istore_n 3, 1) := by decide +kernel
theorem dX8_test_19 : decode cX8_test 19 = .ok (.iload_n 3, 1) := by decide +kernel
theorem dX8_test_20 : decode cX8_test 20 = .ok (.ifCond .ge 5, 3) := by decide +kernel
theorem dX8_test_23 : decode cX8_test 23 = .ok (.iload_n 3, 1) := by decide +kernel
theorem dX8_test_24 : decode cX8_test 24 = .ok (.ireturn, 1) := by decide +kernel
theorem dX8_test_25 : decode cX8_test 25 = .ok (.aload_n 0, 1) := by decide +kernel
theorem dX8_test_26 : decode cX8_test 26 = .ok (.getfield 30, 3) := by decide +kernel
theorem dX8_test_29 : decode cX8_test 29 = .ok (.iload_n 1, 1) := by decide +kernel
theorem dX8_test_30 : decode cX8_test 30 = .ok (.iload_n 2, 1) := by decide +kernel
theorem dX8_test_31 : decode cX8_test 31 = .ok (.aload_n 0, 1) := by decide +kernel
theorem dX8_test_32 : decode cX8_test 32 = .ok (.getfield 57, 3) := by decide +kernel
theorem dX8_test_35 : decode cX8_test 35 = .ok (.invokevirtual 205, 3) := by decide +kernel
theorem dX8_test_38 : decode cX8_test 38 = .ok (.iload_n 2, 1) := by decide +kernel
theorem dX8_test_39 : decode cX8_test 39 = .ok (.bipush 10, 2) := by decide +kernel
theorem dX8_test_41 : decode cX8_test 41 = .ok (.if_icmp .gt 7, 3) := by decide +kernel
theorem dX8_test_44 : decode cX8_test 44 = .ok (.iconst 1, 1) := by decide +kernel
theorem dX8_test_45 : decode cX8_test 45 = .ok (.goto 4, 3) := by decide +kernel
theorem dX8_test_48 : decode cX8_test 48 = .ok (.iconst 0, 1) := by decide +kernel
theorem dX8_test_49 : decode cX8_test 49 = .ok (.ireturn, 1) := by decide +kernel
theorem dX8_start_0 : decode cX8_start 0 = .ok (.aload_n 0, 1) := by decide +kernel
theorem dX8_start_1 : decode cX8_start 1 = .ok (.iload_n 1, 1) := by decide +kernel
theorem dX8_start_2 : decode cX8_start 2 = .ok (.iconst 2, 1) := by decide +kernel
theorem dX8_start_3 : decode cX8_start 3 = .ok (.invokevirtual 197, 3) := by decide +kernel
theorem dX8_start_6 : decode cX8_start 6 = .ok (.istore_n 2, 1) := by decide +kernel
theorem dX8_start_7 : decode cX8_start 7 = .ok (.iload_n 2, 1) := by decide +kernel
theorem dX8_start_8 : decode cX8_start 8 = .ok (.ifCond .ge 5, 3) := by decide +kernel
theorem dX8_start_11 : decode cX8_start 11 = .ok (.iload_n 2, 1) := by decide +kernel
theorem dX8_start_12 : decode cX8_start 12 = .ok (.ireturn, 1) := by decide +kernel
theorem dX8_start_13 : decode cX8_start 13 = .ok (.aload_n 0, 1) := by decide +kernel
theorem dX8_start_14 : decode cX8_start 14 = .ok (.getfield 30, 3) := by decide +kernel
theorem dX8_start_17 : decode cX8_start 17 = .ok (.getfield 186, 3) := by decide +kernel
theorem dX8_start_20 : decode cX8_start 20 = .ok (.iload_n 1, 1) := by decide +kernel
theorem dX8_start_21 : decode cX8_start 21 = .ok (.iconst 3, 1) := by decide +kernel
theorem dX8_start_22 : decode cX8_start 22 = .ok (.iastore, 1) := by decide +kernel
theorem dX8_start_23 : decode cX8_start 23 = .ok (.iconst 1, 1) := by decide +kernel
theorem dX8_start_24 : decode cX8_start 24 = .ok (.ireturn, 1) := by decide +kernel
theorem dX8_hang_0 : decode cX8_hang 0 = .ok (.aload_n 0, 1) := by decide +kernel
theorem dX8_hang_1 : decode cX8_hang 1 = .ok (.iload_n 1, 1) := by decide +kernel
theorem dX8_hang_2 : decode cX8_hang 2 = .ok (.iconst 3, 1) := by decide +kernel
theorem dX8_hang_3 : decode cX8_hang 3 = .ok (.invokevirtual 197, 3) := by decide +kernel
theorem dX8_hang_6 : decode cX8_hang 6 = .ok (.istore_n 2, 1) := by decide +kernel
theorem dX8_hang_7 : decode cX8_hang 7 = .ok (.iload_n 2, 1) := by decide +kernel
theorem dX8_hang_8 : decode cX8_hang 8 = .ok (.ifCond .ge 5, 3) := by decide +kernel
theorem dX8_hang_11 : decode cX8_hang 11 = .ok (.iload_n 2, 1) := by decide +kernel
theorem dX8_hang_12 : decode cX8_hang 12 = .ok (.ireturn, 1) := by decide +kernel
theorem dX8_hang_13 : decode cX8_hang 13 = .ok (.aload_n 0, 1) := by decide +kernel
theorem dX8_hang_14 : decode cX8_hang 14 = .ok (.getfield 30, 3) := by decide +kernel
theorem dX8_hang_17 : decode cX8_hang 17 = .ok (.iload_n 1, 1) := by decide +kernel
theorem dX8_hang_18 : decode cX8_hang 18 = .ok (.aload_n 0, 1) := by decide +kernel
theorem dX8_hang_19 : decode cX8_hang 19 = .ok (.getfield 57, 3) := by decide +kernel
theorem dX8_hang_22 : decode cX8_hang 22 = .ok (.invokevirtual 209, 3) := by decide +kernel
theorem dX8_hang_25 : decode cX8_hang 25 = .ok (.iconst 1, 1) := by decide +kernel
theorem dX8_hang_26 : decode cX8_hang 26 = .ok (.ireturn, 1) := by decide +kernel
theorem dX8_back_0 : decode cX8_back 0 = .ok (.aload_n 0, 1) := by decide +kernel
theorem dX8_back_1 : decode cX8_back 1 = .ok (.iload_n 1, 1) := by decide +kernel
theorem dX8_back_2 : decode cX8_back 2 = .ok (.iconst 4, 1) := by decide +kernel
theorem dX8_back_3 : decode cX8_back 3 = .ok (.invokevirtual 197, 3) := by decide +kernel
theorem dX8_back_6 : decode cX8_back 6 = .ok (.istore_n 2, 1) := by decide +kernel
theorem dX8_back_7 : decode cX8_back 7 = .ok (.iload_n 2, 1) := by decide +kernel
theorem dX8_back_8 : decode cX8_back 8 = .ok (.ifCond .ge 5, 3) := by decide +kernel
theorem dX8_back_11 : decode cX8_back 11 = .ok (.iload_n 2, 1) := by decide +kernel
theorem dX8_back_12 : decode cX8_back 12 = .ok (.ireturn, 1) := by decide +kernel
theorem dX8_back_13 : decode cX8_back 13 = .ok (.aload_n 0, 1) := by decide +kernel
theorem dX8_back_14 : decode cX8_back 14 = .ok (.getfield 10, 3) := by decide +kernel
theorem dX8_back_17 : decode cX8_back 17 = .ok (.invokevirtual 90, 3) := by decide +kernel
theorem dX8_back_20 : decode cX8_back 20 = .ok (.istore_n 3, 1) := by decide +kernel
theorem dX8_back_21 : decode cX8_back 21 = .ok (.aload_n 0, 1) := by decide +kernel
theorem dX8_back_22 : decode cX8_back 22 = .ok (.getfield 30, 3) := by decide +kernel
theorem dX8_back_25 : decode cX8_back 25 = .ok (.getfield 186, 3) := by decide +kernel
theorem dX8_back_28 : decode cX8_back 28 = .ok (.iload_n 1, 1) := by decide +kernel
theorem dX8_back_29 : decode cX8_back 29 = .ok (.iconst 5, 1) := by decide +kernel
theorem dX8_back_30 : decode cX8_back 30 = .ok (.iastore, 1) := by decide +kernel
theorem dX8_back_31 : decode cX8_back 31 = .ok (.iload_n 3, 1) := by decide +kernel
theorem dX8_back_32 : decode cX8_back 32 = .ok (.aload_n 0, 1) := by decide +kernel
theorem dX8_back_33 : decode cX8_back 33 = .ok (.getfield 10, 3) := by decide +kernel
theorem dX8_back_36 : decode cX8_back 36 = .ok (.invokevirtual 90, 3) := by decide +kernel
theorem dX8_back_39 : decode cX8_back 39 = .ok (.iconst (-1), 1) := by decide +kernel
theorem dX8_back_40 : decode cX8_back 40 = .ok (.ixor, 1) := by decide +kernel
theorem dX8_back_41 : decode cX8_back 41 = .ok (.iand, 1) := by decide +kernel
theorem dX8_back_42 : decode cX8_back 42 = .ok (.invokestatic 200, 3) := by decide +kernel
theorem dX8_back_45 : decode cX8_back 45 = .ok (.ireturn, 1) := by decide +kernel
theorem dX8_may_0 : decode cX8_may 0 = .ok (.aload_n 0, 1) := by decide +kernel
theorem dX8_may_1 : decode cX8_may 1 = .ok (.getfield 30, 3) := by decide +kernel
theorem dX8_may_4 : decode cX8_may 4 = .ok (.iload_n 1, 1) := by decide +kernel
theorem dX8_may_5 : decode cX8_may 5 = .ok (.invokevirtual 182, 3) := by decide +kernel
theorem dX8_may_8 : decode cX8_may 8 = .ok (.ifCond .eq 12, 3) := by decide +kernel
theorem dX8_may_11 : decode cX8_may 11 = .ok (.iload_n 2, 1) := by decide +kernel
theorem dX8_may_12 : decode cX8_may 12 = .ok (.ifCond .lt 8, 3) := by decide +kernel
theorem dX8_may_15 : decode cX8_may 15 = .ok (.iload_n 2, 1) := by decide +kernel
theorem dX8_may_16 : decode cX8_may 16 = .ok (.iconst 5, 1) := by decide +kernel
theorem dX8_may_17 : decode cX8_may 17 = .ok (.if_icmp .le 5, 3) := by decide +kernel
theorem dX8_may_20 : decode cX8_may 20 = .ok (.iconst (-1), 1) := by decide +kernel
theorem dX8_may_21 : decode cX8_may 21 = .ok (.ireturn, 1) := by decide +kernel
theorem dX8_may_22 : decode cX8_may 22 = .ok (.aload_n 0, 1) := by decide +kernel
theorem dX8_may_23 : decode cX8_may 23 = .ok (.getfield 10, 3) := by decide +kernel
theorem dX8_may_26 : decode cX8_may 26 = .ok (.iload_n 1, 1) := by decide +kernel
theorem dX8_may_27 : decode cX8_may 27 = .ok (.iload_n 2, 1) := by decide +kernel
theorem dX8_may_28 : decode cX8_may 28 = .ok (.aload_n 0, 1) := by decide +kernel
theorem dX8_may_29 : decode cX8_may 29 = .ok (.getfield 57, 3) := by decide +kernel
theorem dX8_may_32 : decode cX8_may 32 = .ok (.invokevirtual 213, 3) := by decide +kernel
theorem dX8_may_35 : decode cX8_may 35 = .ok (.ireturn, 1) := by decide +kernel
theorem dX8_quarrels_0 : decode cX8_quarrels 0 = .ok (.aload_n 0, 1) := by decide +kernel
theorem dX8_quarrels_1 : decode cX8_quarrels 1 = .ok (.getfield 30, 3) := by decide +kernel
theorem dX8_quarrels_4 : decode cX8_quarrels 4 = .ok (.iload_n 1, 1) := by decide +kernel
theorem dX8_quarrels_5 : decode cX8_quarrels 5 = .ok (.invokevirtual 182, 3) := by decide +kernel
theorem dX8_quarrels_8 : decode cX8_quarrels 8 = .ok (.ifCond .ne 5, 3) := by decide +kernel
theorem dX8_quarrels_11 : decode cX8_quarrels 11 = .ok (.iconst (-1), 1) := by decide +kernel
theorem dX8_quarrels_12 : decode cX8_quarrels 12 = .ok (.ireturn, 1) := by decide +kernel
theorem dX8_quarrels_13 : decode cX8_quarrels 13 = .ok (.aload_n 0, 1) := by decide +kernel
theorem dX8_quarrels_14 : decode cX8_quarrels 14 = .ok (.getfield 10, 3) := by decide +kernel
theorem dX8_quarrels_17 : decode cX8_quarrels 17 = .ok (.iload_n 1, 1) := by decide +kernel
theorem dX8_quarrels_18 : decode cX8_quarrels 18 = .ok (.aload_n 0, 1) := by decide +kernel
theorem dX8_quarrels_19 : decode cX8_quarrels 19 = .ok (.getfield 57, 3) := by decide +kernel
theorem dX8_quarrels_22 : decode cX8_quarrels 22 = .ok (.invokevirtual 216, 3) := by decide +kernel
theorem dX8_quarrels_25 : decode cX8_quarrels 25 = .ok (.ireturn, 1) := by decide +kernel
theorem dX8_permitOf_0 : decode cX8_permitOf 0 = .ok (.aload_n 0, 1) := by decide +kernel
theorem dX8_permitOf_1 : decode cX8_permitOf 1 = .ok (.getfield 30, 3) := by decide +kernel
theorem dX8_permitOf_4 : decode cX8_permitOf 4 = .ok (.iload_n 1, 1) := by decide +kernel
theorem dX8_permitOf_5 : decode cX8_permitOf 5 = .ok (.invokevirtual 182, 3) := by decide +kernel
theorem dX8_permitOf_8 : decode cX8_permitOf 8 = .ok (.ifCond .ne 5, 3) := by decide +kernel
theorem dX8_permitOf_11 : decode cX8_permitOf 11 = .ok (.iconst (-1), 1) := by decide +kernel
theorem dX8_permitOf_12 : decode cX8_permitOf 12 = .ok (.ireturn, 1) := by decide +kernel
theorem dX8_permitOf_13 : decode cX8_permitOf 13 = .ok (.iload_n 2, 1) := by decide +kernel
theorem dX8_permitOf_14 : decode cX8_permitOf 14 = .ok (.tableswitch 177 0 8 #[50, 60, 70, 80, 90, 118, 127, 137, 147], 50) := by decide +kernel
theorem dX8_permitOf_64 : decode cX8_permitOf 64 = .ok (.aload_n 0, 1) := by decide +kernel
theorem dX8_permitOf_65 : decode cX8_permitOf 65 = .ok (.getfield 30, 3) := by decide +kernel
theorem dX8_permitOf_68 : decode cX8_permitOf 68 = .ok (.getfield 219, 3) := by decide +kernel
theorem dX8_permitOf_71 : decode cX8_permitOf 71 = .ok (.iload_n 1, 1) := by decide +kernel
theorem dX8_permitOf_72 : decode cX8_permitOf 72 = .ok (.iaload, 1) := by decide +kernel
theorem dX8_permitOf_73 : decode cX8_permitOf 73 = .ok (.ireturn, 1) := by decide +kernel
theorem dX8_permitOf_74 : decode cX8_permitOf 74 = .ok (.aload_n 0, 1) := by decide +kernel
theorem dX8_permitOf_75 : decode cX8_permitOf 75 = .ok (.getfield 30, 3) := by decide +kernel
theorem dX8_permitOf_78 : decode cX8_permitOf 78 = .ok (.getfield 222, 3) := by decide +kernel
theorem dX8_permitOf_81 : decode cX8_permitOf 81 = .ok (.iload_n 1, 1) := by decide +kernel
theorem dX8_permitOf_82 : decode cX8_permitOf 82 = .ok (.iaload, 1) := by decide +kernel
theorem dX8_permitOf_83 : decode cX8_permitOf 83 = .ok (.ireturn, 1) := by decide +kernel
theorem dX8_permitOf_84 : decode cX8_permitOf 84 = .ok (.aload_n 0, 1) := by decide +kernel
theorem dX8_permitOf_85 : decode cX8_permitOf 85 = .ok (.getfield 30, 3) := by decide +kernel
theorem dX8_permitOf_88 : decode cX8_permitOf 88 = .ok (.getfield 225, 3) := by decide +kernel
theorem dX8_permitOf_91 : decode cX8_permitOf 91 = .ok (.iload_n 1, 1) := by decide +kernel
theorem dX8_permitOf_92 : decode cX8_permitOf 92 = .ok (.iaload, 1) := by decide +kernel
theorem dX8_permitOf_93 : decode cX8_permitOf 93 = .ok (.ireturn, 1) := by decide +kernel
theorem dX8_permitOf_94 : decode cX8_permitOf 94 = .ok (.aload_n 0, 1) := by decide +kernel
theorem dX8_permitOf_95 : decode cX8_permitOf 95 = .ok (.getfield 30, 3) := by decide +kernel
theorem dX8_permitOf_98 : decode cX8_permitOf 98 = .ok (.getfield 186, 3) := by decide +kernel
theorem dX8_permitOf_101 : decode cX8_permitOf 101 = .ok (.iload_n 1, 1) := by decide +kernel
theorem dX8_permitOf_102 : decode cX8_permitOf 102 = .ok (.iaload, 1) := by decide +kernel
theorem dX8_permitOf_103 : decode cX8_permitOf 103 = .ok (.ireturn, 1) := by decide +kernel
theorem dX8_permitOf_104 : decode cX8_permitOf 104 = .ok (.aload_n 0, 1) := by decide +kernel
theorem dX8_permitOf_105 : decode cX8_permitOf 105 = .ok (.getfield 30, 3) := by decide +kernel
theorem dX8_permitOf_108 : decode cX8_permitOf 108 = .ok (.getfield 194, 3) := by decide +kernel
theorem dX8_permitOf_111 : decode cX8_permitOf 111 = .ok (.iload_n 1, 1) := by decide +kernel
theorem dX8_permitOf_112 : decode cX8_permitOf 112 = .ok (.iaload, 1) := by decide +kernel
theorem dX8_permitOf_113 : decode cX8_permitOf 113 = .ok (.iconst (-1), 1) := by decide +kernel
theorem dX8_permitOf_114 : decode cX8_permitOf 114 = .ok (.if_icmp .ne 8, 3) := by decide +kernel
theorem dX8_permitOf_117 : decode cX8_permitOf 117 = .ok (.bipush (-3), 2) := by decide +kernel
theorem dX8_permitOf_119 : decode cX8_permitOf 119 = .ok (.goto 12, 3) := by decide +kernel
theorem dX8_permitOf_122 : decode cX8_permitOf 122 = .ok (.aload_n 0, 1) := by decide +kernel
theorem dX8_permitOf_123 : decode cX8_permitOf 123 = .ok (.getfield 30, 3) := by decide +kernel
theorem dX8_permitOf_126 : decode cX8_permitOf 126 = .ok (.getfield 194, 3) := by decide +kernel
theorem dX8_permitOf_129 : decode cX8_permitOf 129 = .ok (.iload_n 1, 1) := by decide +kernel
theorem dX8_permitOf_130 : decode cX8_permitOf 130 = .ok (.iaload, 1) := by decide +kernel
theorem dX8_permitOf_131 : decode cX8_permitOf 131 = .ok (.ireturn, 1) := by decide +kernel
theorem dX8_permitOf_132 : decode cX8_permitOf 132 = .ok (.aload_n 0, 1) := by decide +kernel
theorem dX8_permitOf_133 : decode cX8_permitOf 133 = .ok (.getfield 35, 3) := by decide +kernel
theorem dX8_permitOf_136 : decode cX8_permitOf 136 = .ok (.iload_n 1, 1) := by decide +kernel
theorem dX8_permitOf_137 : decode cX8_permitOf 137 = .ok (.invokevirtual 228, 3) := by decide +kernel
theorem dX8_permitOf_140 : decode cX8_permitOf 140 = .ok (.ireturn, 1) := by decide +kernel
theorem dX8_permitOf_141 : decode cX8_permitOf 141 = .ok (.aload_n 0, 1) := by decide +kernel
theorem dX8_permitOf_142 : decode cX8_permitOf 142 = .ok (.getfield 30, 3) := by decide +kernel
theorem dX8_permitOf_145 : decode cX8_permitOf 145 = .ok (.getfield 231, 3) := by decide +kernel
theorem dX8_permitOf_148 : decode cX8_permitOf 148 = .ok (.iload_n 1, 1) := by decide +kernel
theorem dX8_permitOf_149 : decode cX8_permitOf 149 = .ok (.iaload, 1) := by decide +kernel
theorem dX8_permitOf_150 : decode cX8_permitOf 150 = .ok (.ireturn, 1) := by decide +kernel
theorem dX8_permitOf_151 : decode cX8_permitOf 151 = .ok (.aload_n 0, 1) := by decide +kernel
theorem dX8_permitOf_152 : decode cX8_permitOf 152 = .ok (.getfield 30, 3) := by decide +kernel
theorem dX8_permitOf_155 : decode cX8_permitOf 155 = .ok (.getfield 234, 3) := by decide +kernel
theorem dX8_permitOf_158 : decode cX8_permitOf 158 = .ok (.iload_n 1, 1) := by decide +kernel
theorem dX8_permitOf_159 : decode cX8_permitOf 159 = .ok (.iaload, 1) := by decide +kernel
theorem dX8_permitOf_160 : decode cX8_permitOf 160 = .ok (.ireturn, 1) := by decide +kernel
theorem dX8_permitOf_161 : decode cX8_permitOf 161 = .ok (.aload_n 0, 1) := by decide +kernel
theorem dX8_permitOf_162 : decode cX8_permitOf 162 = .ok (.getfield 30, 3) := by decide +kernel
theorem dX8_permitOf_165 : decode cX8_permitOf 165 = .ok (.getfield 186, 3) := by decide +kernel
theorem dX8_permitOf_168 : decode cX8_permitOf 168 = .ok (.iload_n 1, 1) := by decide +kernel
theorem dX8_permitOf_169 : decode cX8_permitOf 169 = .ok (.iaload, 1) := by decide +kernel
theorem dX8_permitOf_170 : decode cX8_permitOf 170 = .ok (.iconst 3, 1) := by decide +kernel
theorem dX8_permitOf_171 : decode cX8_permitOf 171 = .ok (.if_icmp .ne 10, 3) := by decide +kernel
theorem dX8_permitOf_174 : decode cX8_permitOf 174 = .ok (.aload_n 0, 1) := by decide +kernel
theorem dX8_permitOf_175 : decode cX8_permitOf 175 = .ok (.getfield 57, 3) := by decide +kernel
theorem dX8_permitOf_178 : decode cX8_permitOf 178 = .ok (.goto 12, 3) := by decide +kernel
theorem dX8_permitOf_181 : decode cX8_permitOf 181 = .ok (.aload_n 0, 1) := by decide +kernel
theorem dX8_permitOf_182 : decode cX8_permitOf 182 = .ok (.getfield 30, 3) := by decide +kernel
theorem dX8_permitOf_185 : decode cX8_permitOf 185 = .ok (.getfield 237, 3) := by decide +kernel
theorem dX8_permitOf_188 : decode cX8_permitOf 188 = .ok (.iload_n 1, 1) := by decide +kernel
theorem dX8_permitOf_189 : decode cX8_permitOf 189 = .ok (.iaload, 1) := by decide +kernel
theorem dX8_permitOf_190 : decode cX8_permitOf 190 = .ok (.ireturn, 1) := by decide +kernel
theorem dX8_permitOf_191 : decode cX8_permitOf 191 = .ok (.iconst (-1), 1) := by decide +kernel
theorem dX8_permitOf_192 : decode cX8_permitOf 192 = .ok (.ireturn, 1) := by decide +kernel
theorem dX8_enter_0 : decode cX8_enter 0 = .ok (.iload_n 1, 1) := by decide +kernel
theorem dX8_enter_1 : decode cX8_enter 1 = .ok (.invokestatic 183, 3) := by decide +kernel
theorem dX8_enter_4 : decode cX8_enter 4 = .ok (.ifCond .eq 14, 3) := by decide +kernel
theorem dX8_enter_7 : decode cX8_enter 7 = .ok (.aload_n 0, 1) := by decide +kernel
theorem dX8_enter_8 : decode cX8_enter 8 = .ok (.getfield 30, 3) := by decide +kernel
theorem dX8_enter_11 : decode cX8_enter 11 = .ok (.iload_n 2, 1) := by decide +kernel
theorem dX8_enter_12 : decode cX8_enter 12 = .ok (.invokevirtual 182, 3) := by decide +kernel
theorem dX8_enter_15 : decode cX8_enter 15 = .ok (.ifCond .ne 5, 3) := by decide +kernel
theorem dX8_enter_18 : decode cX8_enter 18 = .ok (.iconst (-1), 1) := by decide +kernel
theorem dX8_enter_19 : decode cX8_enter 19 = .ok (.ireturn, 1) := by decide +kernel
theorem dX8_enter_20 : decode cX8_enter 20 = .ok (.aload_n 0, 1) := by decide +kernel
theorem dX8_enter_21 : decode cX8_enter 21 = .ok (.getfield 35, 3) := by decide +kernel
theorem dX8_enter_24 : decode cX8_enter 24 = .ok (.iload_n 1, 1) := by decide +kernel
theorem dX8_enter_25 : decode cX8_enter 25 = .ok (.invokevirtual 189, 3) := by decide +kernel
theorem dX8_enter_28 : decode cX8_enter 28 = .ok (.ifCond .eq 16, 3) := by decide +kernel
theorem dX8_enter_31 : decode cX8_enter 31 = .ok (.aload_n 0, 1) := by decide +kernel
theorem dX8_enter_32 : decode cX8_enter 32 = .ok (.getfield 35, 3) := by decide +kernel
theorem dX8_enter_35 : decode cX8_enter 35 = .ok (.getfield 240, 3) := by decide +kernel
theorem dX8_enter_38 : decode cX8_enter 38 = .ok (.iload_n 1, 1) := by decide +kernel
theorem dX8_enter_39 : decode cX8_enter 39 = .ok (.iaload, 1) := by decide +kernel
theorem dX8_enter_40 : decode cX8_enter 40 = .ok (.iconst (-1), 1) := by decide +kernel
theorem dX8_enter_41 : decode cX8_enter 41 = .ok (.if_icmp .eq 6, 3) := by decide +kernel
theorem dX8_enter_44 : decode cX8_enter 44 = .ok (.bipush (-4), 2) := by decide +kernel
theorem dX8_enter_46 : decode cX8_enter 46 = .ok (.ireturn, 1) := by decide +kernel
theorem dX8_enter_47 : decode cX8_enter 47 = .ok (.aload_n 0, 1) := by decide +kernel
theorem dX8_enter_48 : decode cX8_enter 48 = .ok (.iload_n 2, 1) := by decide +kernel
theorem dX8_enter_49 : decode cX8_enter 49 = .ok (.iconst 5, 1) := by decide +kernel
theorem dX8_enter_50 : decode cX8_enter 50 = .ok (.invokevirtual 197, 3) := by decide +kernel
theorem dX8_enter_53 : decode cX8_enter 53 = .ok (.istore_n 3, 1) := by decide +kernel
theorem dX8_enter_54 : decode cX8_enter 54 = .ok (.iload_n 3, 1) := by decide +kernel
theorem dX8_enter_55 : decode cX8_enter 55 = .ok (.ifCond .ge 5, 3) := by decide +kernel
theorem dX8_enter_58 : decode cX8_enter 58 = .ok (.iload_n 3, 1) := by decide +kernel
theorem dX8_enter_59 : decode cX8_enter 59 = .ok (.ireturn, 1) := by decide +kernel
theorem dX8_enter_60 : decode cX8_enter 60 = .ok (.aload_n 0, 1) := by decide +kernel
theorem dX8_enter_61 : decode cX8_enter 61 = .ok (.getfield 35, 3) := by decide +kernel
theorem dX8_enter_64 : decode cX8_enter 64 = .ok (.getfield 240, 3) := by decide +kernel
theorem dX8_enter_67 : decode cX8_enter 67 = .ok (.iload_n 1, 1) := by decide +kernel
theorem dX8_enter_68 : decode cX8_enter 68 = .ok (.iload_n 2, 1) := by decide +kernel
theorem dX8_enter_69 : decode cX8_enter 69 = .ok (.iastore, 1) := by decide +kernel
theorem dX8_enter_70 : decode cX8_enter 70 = .ok (.aload_n 0, 1) := by decide +kernel
theorem dX8_enter_71 : decode cX8_enter 71 = .ok (.getfield 35, 3) := by decide +kernel
theorem dX8_enter_74 : decode cX8_enter 74 = .ok (.iload_n 2, 1) := by decide +kernel
theorem dX8_enter_75 : decode cX8_enter 75 = .ok (.invokevirtual 228, 3) := by decide +kernel
theorem dX8_enter_78 : decode cX8_enter 78 = .ok (.ireturn, 1) := by decide +kernel
theorem dX8_leave_0 : decode cX8_leave 0 = .ok (.iload_n 1, 1) := by decide +kernel
theorem dX8_leave_1 : decode cX8_leave 1 = .ok (.invokestatic 183, 3) := by decide +kernel
theorem dX8_leave_4 : decode cX8_leave 4 = .ok (.ifCond .ne 5, 3) := by decide +kernel
theorem dX8_leave_7 : decode cX8_leave 7 = .ok (.iconst (-1), 1) := by decide +kernel
theorem dX8_leave_8 : decode cX8_leave 8 = .ok (.ireturn, 1) := by decide +kernel
theorem dX8_leave_9 : decode cX8_leave 9 = .ok (.aload_n 0, 1) := by decide +kernel
theorem dX8_leave_10 : decode cX8_leave 10 = .ok (.getfield 35, 3) := by decide +kernel
theorem dX8_leave_13 : decode cX8_leave 13 = .ok (.getfield 240, 3) := by decide +kernel
theorem dX8_leave_16 : decode cX8_leave 16 = .ok (.iload_n 1, 1) := by decide +kernel
theorem dX8_leave_17 : decode cX8_leave 17 = .ok (.iaload, 1) := by decide +kernel
theorem dX8_leave_18 : decode cX8_leave 18 = .ok (.istore_n 2, 1) := by decide +kernel
theorem dX8_leave_19 : decode cX8_leave 19 = .ok (.iload_n 2, 1) := by decide +kernel
theorem dX8_leave_20 : decode cX8_leave 20 = .ok (.iconst (-1), 1) := by decide +kernel
theorem dX8_leave_21 : decode cX8_leave 21 = .ok (.if_icmp .ne 6, 3) := by decide +kernel
theorem dX8_leave_24 : decode cX8_leave 24 = .ok (.bipush (-4), 2) := by decide +kernel
theorem dX8_leave_26 : decode cX8_leave 26 = .ok (.ireturn, 1) := by decide +kernel
theorem dX8_leave_27 : decode cX8_leave 27 = .ok (.aload_n 0, 1) := by decide +kernel
theorem dX8_leave_28 : decode cX8_leave 28 = .ok (.getfield 35, 3) := by decide +kernel
theorem dX8_leave_31 : decode cX8_leave 31 = .ok (.getfield 240, 3) := by decide +kernel
theorem dX8_leave_34 : decode cX8_leave 34 = .ok (.iload_n 1, 1) := by decide +kernel
theorem dX8_leave_35 : decode cX8_leave 35 = .ok (.iconst (-1), 1) := by decide +kernel
theorem dX8_leave_36 : decode cX8_leave 36 = .ok (.iastore, 1) := by decide +kernel
theorem dX8_leave_37 : decode cX8_leave 37 = .ok (.iload_n 2, 1) := by decide +kernel
theorem dX8_leave_38 : decode cX8_leave 38 = .ok (.ireturn, 1) := by decide +kernel
theorem dX8_shift_0 : decode cX8_shift 0 = .ok (.iload_n 1, 1) := by decide +kernel
theorem dX8_shift_1 : decode cX8_shift 1 = .ok (.invokestatic 183, 3) := by decide +kernel
theorem dX8_shift_4 : decode cX8_shift 4 = .ok (.ifCond .ne 5, 3) := by decide +kernel
theorem dX8_shift_7 : decode cX8_shift 7 = .ok (.iconst (-1), 1) := by decide +kernel
theorem dX8_shift_8 : decode cX8_shift 8 = .ok (.ireturn, 1) := by decide +kernel
theorem dX8_shift_9 : decode cX8_shift 9 = .ok (.aload_n 0, 1) := by decide +kernel
theorem dX8_shift_10 : decode cX8_shift 10 = .ok (.getfield 35, 3) := by decide +kernel
theorem dX8_shift_13 : decode cX8_shift 13 = .ok (.getfield 240, 3) := by decide +kernel
theorem dX8_shift_16 : decode cX8_shift 16 = .ok (.iload_n 1, 1) := by decide +kernel
theorem dX8_shift_17 : decode cX8_shift 17 = .ok (.iaload, 1) := by decide +kernel
theorem dX8_shift_18 : decode cX8_shift 18 = .ok (.iconst (-1), 1) := by decide +kernel
theorem dX8_shift_19 : decode cX8_shift 19 = .ok (.if_icmp .ne 14, 3) := by decide +kernel
theorem dX8_shift_22 : decode cX8_shift 22 = .ok (.aload_n 0, 1) := by decide +kernel
theorem dX8_shift_23 : decode cX8_shift 23 = .ok (.getfield 30, 3) := by decide +kernel
theorem dX8_shift_26 : decode cX8_shift 26 = .ok (.iload_n 1, 1) := by decide +kernel
theorem dX8_shift_27 : decode cX8_shift 27 = .ok (.invokevirtual 243, 3) := by decide +kernel
theorem dX8_shift_30 : decode cX8_shift 30 = .ok (.ifCond .eq 7, 3) := by decide +kernel
theorem dX8_shift_33 : decode cX8_shift 33 = .ok (.iconst 1, 1) := by decide +kernel
theorem dX8_shift_34 : decode cX8_shift 34 = .ok (.goto 4, 3) := by decide +kernel
theorem dX8_shift_37 : decode cX8_shift 37 = .ok (.iconst 0, 1) := by decide +kernel
theorem dX8_shift_38 : decode cX8_shift 38 = .ok (.istore_n 3, 1) := by decide +kernel
theorem dX8_shift_39 : decode cX8_shift 39 = .ok (.aload_n 0, 1) := by decide +kernel
theorem dX8_shift_40 : decode cX8_shift 40 = .ok (.getfield 35, 3) := by decide +kernel
theorem dX8_shift_43 : decode cX8_shift 43 = .ok (.iload_n 1, 1) := by decide +kernel
theorem dX8_shift_44 : decode cX8_shift 44 = .ok (.invokevirtual 189, 3) := by decide +kernel
theorem dX8_shift_47 : decode cX8_shift 47 = .ok (.iload_n 2, 1) := by decide +kernel
theorem dX8_shift_48 : decode cX8_shift 48 = .ok (.if_icmp .eq 11, 3) := by decide +kernel
theorem dX8_shift_51 : decode cX8_shift 51 = .ok (.iload_n 2, 1) := by decide +kernel
theorem dX8_shift_52 : decode cX8_shift 52 = .ok (.ifCond .ne 10, 3) := by decide +kernel
theorem dX8_shift_55 : decode cX8_shift 55 = .ok (.iload_n 3, 1) := by decide +kernel
theorem dX8_shift_56 : decode cX8_shift 56 = .ok (.ifCond .eq 6, 3) := by decide +kernel
theorem dX8_shift_59 : decode cX8_shift 59 = .ok (.bipush (-4), 2) := by decide +kernel
theorem dX8_shift_61 : decode cX8_shift 61 = .ok (.ireturn, 1) := by decide +kernel
theorem dX8_shift_62 : decode cX8_shift 62 = .ok (.aload_n 0, 1) := by decide +kernel
theorem dX8_shift_63 : decode cX8_shift 63 = .ok (.getfield 35, 3) := by decide +kernel
theorem dX8_shift_66 : decode cX8_shift 66 = .ok (.iload_n 1, 1) := by decide +kernel
theorem dX8_shift_67 : decode cX8_shift 67 = .ok (.iload_n 2, 1) := by decide +kernel
theorem dX8_shift_68 : decode cX8_shift 68 = .ok (.invokevirtual 246, 3) := by decide +kernel
theorem dX8_shift_71 : decode cX8_shift 71 = .ok (.iconst 1, 1) := by decide +kernel
theorem dX8_shift_72 : decode cX8_shift 72 = .ok (.ireturn, 1) := by decide +kernel
theorem dX8_siren_0 : decode cX8_siren 0 = .ok (.aload_n 0, 1) := by decide +kernel
theorem dX8_siren_1 : decode cX8_siren 1 = .ok (.getfield 35, 3) := by decide +kernel
theorem dX8_siren_4 : decode cX8_siren 4 = .ok (.invokevirtual 250, 3) := by decide +kernel
theorem dX8_siren_7 : decode cX8_siren 7 = .ok (.istore_n 1, 1) := by decide +kernel
theorem dX8_siren_8 : decode cX8_siren 8 = .ok (.aload_n 0, 1) := by decide +kernel
theorem dX8_siren_9 : decode cX8_siren 9 = .ok (.getfield 30, 3) := by decide +kernel
theorem dX8_siren_12 : decode cX8_siren 12 = .ok (.aload_n 0, 1) := by decide +kernel
theorem dX8_siren_13 : decode cX8_siren 13 = .ok (.getfield 57, 3) := by decide +kernel
theorem dX8_siren_16 : decode cX8_siren 16 = .ok (.invokevirtual 253, 3) := by decide +kernel
theorem dX8_siren_19 : decode cX8_siren 19 = .ok (.iload_n 1, 1) := by decide +kernel
theorem dX8_siren_20 : decode cX8_siren 20 = .ok (.ireturn, 1) := by decide +kernel
theorem dX8_least_0 : decode cX8_least 0 = .ok (.aload_n 0, 1) := by decide +kernel
theorem dX8_least_1 : decode cX8_least 1 = .ok (.iload_n 1, 1) := by decide +kernel
theorem dX8_least_2 : decode cX8_least 2 = .ok (.invokevirtual 257, 3) := by decide +kernel
theorem dX8_least_5 : decode cX8_least 5 = .ok (.istore_n 2, 1) := by decide +kernel
theorem dX8_least_6 : decode cX8_least 6 = .ok (.iload_n 2, 1) := by decide +kernel
theorem dX8_least_7 : decode cX8_least 7 = .ok (.ifCond .ge 7, 3) := by decide +kernel
theorem dX8_least_10 : decode cX8_least 10 = .ok (.iload_n 2, 1) := by decide +kernel
theorem dX8_least_11 : decode cX8_least 11 = .ok (.goto 11, 3) := by decide +kernel
theorem dX8_least_14 : decode cX8_least 14 = .ok (.aload_n 0, 1) := by decide +kernel
theorem dX8_least_15 : decode cX8_least 15 = .ok (.getfield 20, 3) := by decide +kernel
theorem dX8_least_18 : decode cX8_least 18 = .ok (.iload_n 2, 1) := by decide +kernel
theorem dX8_least_19 : decode cX8_least 19 = .ok (.invokevirtual 260, 3) := by decide +kernel
theorem dX8_least_22 : decode cX8_least 22 = .ok (.ireturn, 1) := by decide +kernel
theorem dX8_leastSet_0 : decode cX8_leastSet 0 = .ok (.iload_n 1, 1) := by decide +kernel
theorem dX8_leastSet_1 : decode cX8_leastSet 1 = .ok (.invokestatic 61, 3) := by decide +kernel
theorem dX8_leastSet_4 : decode cX8_leastSet 4 = .ok (.ifCond .ne 5, 3) := by decide +kernel
theorem dX8_leastSet_7 : decode cX8_leastSet 7 = .ok (.iconst (-1), 1) := by decide +kernel
theorem dX8_leastSet_8 : decode cX8_leastSet 8 = .ok (.ireturn, 1) := by decide +kernel
theorem dX8_leastSet_9 : decode cX8_leastSet 9 = .ok (.aload_n 0, 1) := by decide +kernel
theorem dX8_leastSet_10 : decode cX8_leastSet 10 = .ok (.getfield 20, 3) := by decide +kernel
theorem dX8_leastSet_13 : decode cX8_leastSet 13 = .ok (.iload_n 1, 1) := by decide +kernel
theorem dX8_leastSet_14 : decode cX8_leastSet 14 = .ok (.aload_n 0, 1) := by decide +kernel
theorem dX8_leastSet_15 : decode cX8_leastSet 15 = .ok (.getfield 25, 3) := by decide +kernel
theorem dX8_leastSet_18 : decode cX8_leastSet 18 = .ok (.aload_n 0, 1) := by decide +kernel
theorem dX8_leastSet_19 : decode cX8_leastSet 19 = .ok (.getfield 57, 3) := by decide +kernel
theorem dX8_leastSet_22 : decode cX8_leastSet 22 = .ok (.invokevirtual 114, 3) := by decide +kernel
theorem dX8_leastSet_25 : decode cX8_leastSet 25 = .ok (.invokevirtual 263, 3) := by decide +kernel
theorem dX8_leastSet_28 : decode cX8_leastSet 28 = .ok (.ireturn, 1) := by decide +kernel
theorem dX8_risk_0 : decode cX8_risk 0 = .ok (.aload_n 0, 1) := by decide +kernel
theorem dX8_risk_1 : decode cX8_risk 1 = .ok (.getfield 20, 3) := by decide +kernel
theorem dX8_risk_4 : decode cX8_risk 4 = .ok (.iload_n 1, 1) := by decide +kernel
theorem dX8_risk_5 : decode cX8_risk 5 = .ok (.invokevirtual 104, 3) := by decide +kernel
theorem dX8_risk_8 : decode cX8_risk 8 = .ok (.ifCond .ne 5, 3) := by decide +kernel
theorem dX8_risk_11 : decode cX8_risk 11 = .ok (.iconst (-1), 1) := by decide +kernel
theorem dX8_risk_12 : decode cX8_risk 12 = .ok (.ireturn, 1) := by decide +kernel
theorem dX8_risk_13 : decode cX8_risk 13 = .ok (.aload_n 0, 1) := by decide +kernel
theorem dX8_risk_14 : decode cX8_risk 14 = .ok (.getfield 25, 3) := by decide +kernel
theorem dX8_risk_17 : decode cX8_risk 17 = .ok (.aload_n 0, 1) := by decide +kernel
theorem dX8_risk_18 : decode cX8_risk 18 = .ok (.getfield 57, 3) := by decide +kernel
theorem dX8_risk_21 : decode cX8_risk 21 = .ok (.invokevirtual 114, 3) := by decide +kernel
theorem dX8_risk_24 : decode cX8_risk 24 = .ok (.istore_n 2, 1) := by decide +kernel
theorem dX8_risk_25 : decode cX8_risk 25 = .ok (.aload_n 0, 1) := by decide +kernel
theorem dX8_risk_26 : decode cX8_risk 26 = .ok (.getfield 10, 3) := by decide +kernel
theorem dX8_risk_29 : decode cX8_risk 29 = .ok (.invokevirtual 90, 3) := by decide +kernel
theorem dX8_risk_32 : decode cX8_risk 32 = .ok (.iconst 1, 1) := by decide +kernel
theorem dX8_risk_33 : decode cX8_risk 33 = .ok (.iload_n 1, 1) := by decide +kernel
theorem dX8_risk_34 : decode cX8_risk 34 = .ok (.ishl, 1) := by decide +kernel
theorem dX8_risk_35 : decode cX8_risk 35 = .ok (.iconst (-1), 1) := by decide +kernel
theorem dX8_risk_36 : decode cX8_risk 36 = .ok (.ixor, 1) := by decide +kernel
theorem dX8_risk_37 : decode cX8_risk 37 = .ok (.iand, 1) := by decide +kernel
theorem dX8_risk_38 : decode cX8_risk 38 = .ok (.istore_n 3, 1) := by decide +kernel
theorem dX8_risk_39 : decode cX8_risk 39 = .ok (.iconst 0, 1) := by decide +kernel
theorem dX8_risk_40 : decode cX8_risk 40 = .ok (.istore 4, 2) := by decide +kernel
theorem dX8_risk_42 : decode cX8_risk 42 = .ok (.iconst 0, 1) := by decide +kernel
theorem dX8_risk_43 : decode cX8_risk 43 = .ok (.istore 5, 2) := by decide +kernel
theorem dX8_risk_45 : decode cX8_risk 45 = .ok (.iload 5, 2) := by decide +kernel
theorem dX8_risk_47 : decode cX8_risk 47 = .ok (.aload_n 0, 1) := by decide +kernel
theorem dX8_risk_48 : decode cX8_risk 48 = .ok (.getfield 30, 3) := by decide +kernel
theorem dX8_risk_51 : decode cX8_risk 51 = .ok (.getfield 179, 3) := by decide +kernel
theorem dX8_risk_54 : decode cX8_risk 54 = .ok (.if_icmp .ge 73, 3) := by decide +kernel
theorem dX8_risk_57 : decode cX8_risk 57 = .ok (.aload_n 0, 1) := by decide +kernel
theorem dX8_risk_58 : decode cX8_risk 58 = .ok (.getfield 30, 3) := by decide +kernel
theorem dX8_risk_61 : decode cX8_risk 61 = .ok (.getfield 186, 3) := by decide +kernel
theorem dX8_risk_64 : decode cX8_risk 64 = .ok (.iload 5, 2) := by decide +kernel
theorem dX8_risk_66 : decode cX8_risk 66 = .ok (.iaload, 1) := by decide +kernel
theorem dX8_risk_67 : decode cX8_risk 67 = .ok (.iconst 3, 1) := by decide +kernel
theorem dX8_risk_68 : decode cX8_risk 68 = .ok (.if_icmp .ne 7, 3) := by decide +kernel
theorem dX8_risk_71 : decode cX8_risk 71 = .ok (.iconst 1, 1) := by decide +kernel
theorem dX8_risk_72 : decode cX8_risk 72 = .ok (.goto 4, 3) := by decide +kernel
theorem dX8_risk_75 : decode cX8_risk 75 = .ok (.iconst 0, 1) := by decide +kernel
theorem dX8_risk_76 : decode cX8_risk 76 = .ok (.istore 6, 2) := by decide +kernel
theorem dX8_risk_78 : decode cX8_risk 78 = .ok (.iload 6, 2) := by decide +kernel
theorem dX8_risk_80 : decode cX8_risk 80 = .ok (.ifCond .eq 41, 3) := by decide +kernel
theorem dX8_risk_83 : decode cX8_risk 83 = .ok (.aload_n 0, 1) := by decide +kernel
theorem dX8_risk_84 : decode cX8_risk 84 = .ok (.getfield 20, 3) := by decide +kernel
theorem dX8_risk_87 : decode cX8_risk 87 = .ok (.aload_n 0, 1) := by decide +kernel
theorem dX8_risk_88 : decode cX8_risk 88 = .ok (.getfield 30, 3) := by decide +kernel
theorem dX8_risk_91 : decode cX8_risk 91 = .ok (.getfield 219, 3) := by decide +kernel
theorem dX8_risk_94 : decode cX8_risk 94 = .ok (.iload 5, 2) := by decide +kernel
theorem dX8_risk_96 : decode cX8_risk 96 = .ok (.iaload, 1) := by decide +kernel
theorem dX8_risk_97 : decode cX8_risk 97 = .ok (.iload_n 3, 1) := by decide +kernel
theorem dX8_risk_98 : decode cX8_risk 98 = .ok (.aload_n 0, 1) := by decide +kernel
theorem dX8_risk_99 : decode cX8_risk 99 = .ok (.getfield 20, 3) := by decide +kernel
theorem dX8_risk_102 : decode cX8_risk 102 = .ok (.invokevirtual 111, 3) := by decide +kernel
theorem dX8_risk_105 : decode cX8_risk 105 = .ok (.iload_n 2, 1) := by decide +kernel
theorem dX8_risk_106 : decode cX8_risk 106 = .ok (.invokevirtual 119, 3) := by decide +kernel
theorem dX8_risk_109 : decode cX8_risk 109 = .ok (.ifCond .ne 12, 3) := by decide +kernel
theorem dX8_risk_112 : decode cX8_risk 112 = .ok (.iload 4, 2) := by decide +kernel
theorem dX8_risk_114 : decode cX8_risk 114 = .ok (.iconst 1, 1) := by decide +kernel
theorem dX8_risk_115 : decode cX8_risk 115 = .ok (.iload 5, 2) := by decide +kernel
theorem dX8_risk_117 : decode cX8_risk 117 = .ok (.ishl, 1) := by decide +kernel
theorem dX8_risk_118 : decode cX8_risk 118 = .ok (.ior, 1) := by decide +kernel
theorem dX8_risk_119 : decode cX8_risk 119 = .ok (.istore 4, 2) := by decide +kernel
theorem dX8_risk_121 : decode cX8_risk 121 = .ok (.iinc 5 1, 3) := by decide +kernel
theorem dX8_risk_124 : decode cX8_risk 124 = .ok (.goto (-79), 3) := by decide +kernel
theorem dX8_risk_127 : decode cX8_risk 127 = .ok (.iload 4, 2) := by decide +kernel
theorem dX8_risk_129 : decode cX8_risk 129 = .ok (.ireturn, 1) := by decide +kernel
theorem dX8_right_0 : decode cX8_right 0 = .ok (.aload_n 0, 1) := by decide +kernel
theorem dX8_right_1 : decode cX8_right 1 = .ok (.getfield 30, 3) := by decide +kernel
theorem dX8_right_4 : decode cX8_right 4 = .ok (.iload_n 1, 1) := by decide +kernel
theorem dX8_right_5 : decode cX8_right 5 = .ok (.invokevirtual 182, 3) := by decide +kernel
theorem dX8_right_8 : decode cX8_right 8 = .ok (.ifCond .eq 19, 3) := by decide +kernel
theorem dX8_right_11 : decode cX8_right 11 = .ok (.aload_n 0, 1) := by decide +kernel
theorem dX8_right_12 : decode cX8_right 12 = .ok (.iload_n 2, 1) := by decide +kernel
theorem dX8_right_13 : decode cX8_right 13 = .ok (.invokevirtual 266, 3) := by decide +kernel
theorem dX8_right_16 : decode cX8_right 16 = .ok (.ifCond .eq 11, 3) := by decide +kernel
theorem dX8_right_19 : decode cX8_right 19 = .ok (.aload_n 0, 1) := by decide +kernel
theorem dX8_right_20 : decode cX8_right 20 = .ok (.iload_n 3, 1) := by decide +kernel
theorem dX8_right_21 : decode cX8_right 21 = .ok (.invokevirtual 266, 3) := by decide +kernel
theorem dX8_right_24 : decode cX8_right 24 = .ok (.ifCond .ne 5, 3) := by decide +kernel
theorem dX8_right_27 : decode cX8_right 27 = .ok (.iconst (-1), 1) := by decide +kernel
theorem dX8_right_28 : decode cX8_right 28 = .ok (.ireturn, 1) := by decide +kernel
theorem dX8_right_29 : decode cX8_right 29 = .ok (.iload_n 2, 1) := by decide +kernel
theorem dX8_right_30 : decode cX8_right 30 = .ok (.aload_n 0, 1) := by decide +kernel
theorem dX8_right_31 : decode cX8_right 31 = .ok (.getfield 57, 3) := by decide +kernel
theorem dX8_right_34 : decode cX8_right 34 = .ok (.if_icmp .ne 14, 3) := by decide +kernel
theorem dX8_right_37 : decode cX8_right 37 = .ok (.aload_n 0, 1) := by decide +kernel
theorem dX8_right_38 : decode cX8_right 38 = .ok (.getfield 30, 3) := by decide +kernel
theorem dX8_right_41 : decode cX8_right 41 = .ok (.iconst 3, 1) := by decide +kernel
theorem dX8_right_42 : decode cX8_right 42 = .ok (.invokevirtual 131, 3) := by decide +kernel
theorem dX8_right_45 : decode cX8_right 45 = .ok (.goto 12, 3) := by decide +kernel
theorem dX8_right_48 : decode cX8_right 48 = .ok (.aload_n 0, 1) := by decide +kernel
theorem dX8_right_49 : decode cX8_right 49 = .ok (.getfield 46, 3) := by decide +kernel
theorem dX8_right_52 : decode cX8_right 52 = .ok (.getfield 269, 3) := by decide +kernel
theorem dX8_right_55 : decode cX8_right 55 = .ok (.iload_n 2, 1) := by decide +kernel
theorem dX8_right_56 : decode cX8_right 56 = .ok (.iaload, 1) := by decide +kernel
theorem dX8_right_57 : decode cX8_right 57 = .ok (.istore 4, 2) := by decide +kernel
theorem dX8_right_59 : decode cX8_right 59 = .ok (.iload 4, 2) := by decide +kernel
theorem dX8_right_61 : decode cX8_right 61 = .ok (.iload_n 1, 1) := by decide +kernel
theorem dX8_right_62 : decode cX8_right 62 = .ok (.ishr, 1) := by decide +kernel
theorem dX8_right_63 : decode cX8_right 63 = .ok (.iconst 1, 1) := by decide +kernel
theorem dX8_right_64 : decode cX8_right 64 = .ok (.iand, 1) := by decide +kernel
theorem dX8_right_65 : decode cX8_right 65 = .ok (.ifCond .ne 5, 3) := by decide +kernel
theorem dX8_right_68 : decode cX8_right 68 = .ok (.iconst 2, 1) := by decide +kernel
theorem dX8_right_69 : decode cX8_right 69 = .ok (.ireturn, 1) := by decide +kernel
theorem dX8_right_70 : decode cX8_right 70 = .ok (.iload_n 2, 1) := by decide +kernel
theorem dX8_right_71 : decode cX8_right 71 = .ok (.aload_n 0, 1) := by decide +kernel
theorem dX8_right_72 : decode cX8_right 72 = .ok (.getfield 57, 3) := by decide +kernel
theorem dX8_right_75 : decode cX8_right 75 = .ok (.if_icmp .ne 13, 3) := by decide +kernel
theorem dX8_right_78 : decode cX8_right 78 = .ok (.aload_n 0, 1) := by decide +kernel
theorem dX8_right_79 : decode cX8_right 79 = .ok (.getfield 10, 3) := by decide +kernel
theorem dX8_right_82 : decode cX8_right 82 = .ok (.invokevirtual 90, 3) := by decide +kernel
theorem dX8_right_85 : decode cX8_right 85 = .ok (.goto 12, 3) := by decide +kernel
theorem dX8_right_88 : decode cX8_right 88 = .ok (.aload_n 0, 1) := by decide +kernel
theorem dX8_right_89 : decode cX8_right 89 = .ok (.getfield 46, 3) := by decide +kernel
theorem dX8_right_92 : decode cX8_right 92 = .ok (.getfield 272, 3) := by decide +kernel
theorem dX8_right_95 : decode cX8_right 95 = .ok (.iload_n 2, 1) := by decide +kernel
theorem dX8_right_96 : decode cX8_right 96 = .ok (.iaload, 1) := by decide +kernel
theorem dX8_right_97 : decode cX8_right 97 = .ok (.istore 5, 2) := by decide +kernel
theorem dX8_right_99 : decode cX8_right 99 = .ok (.aload_n 0, 1) := by decide +kernel
theorem dX8_right_100 : decode cX8_right 100 = .ok (.getfield 20, 3) := by decide +kernel
theorem dX8_right_103 : decode cX8_right 103 = .ok (.aload_n 0, 1) := by decide +kernel
theorem dX8_right_104 : decode cX8_right 104 = .ok (.getfield 30, 3) := by decide +kernel
theorem dX8_right_107 : decode cX8_right 107 = .ok (.getfield 219, 3) := by decide +kernel
theorem dX8_right_110 : decode cX8_right 110 = .ok (.iload_n 1, 1) := by decide +kernel
theorem dX8_right_111 : decode cX8_right 111 = .ok (.iaload, 1) := by decide +kernel
theorem dX8_right_112 : decode cX8_right 112 = .ok (.iload 5, 2) := by decide +kernel
theorem dX8_right_114 : decode cX8_right 114 = .ok (.aload_n 0, 1) := by decide +kernel
theorem dX8_right_115 : decode cX8_right 115 = .ok (.getfield 20, 3) := by decide +kernel
theorem dX8_right_118 : decode cX8_right 118 = .ok (.iload_n 3, 1) := by decide +kernel
theorem dX8_right_119 : decode cX8_right 119 = .ok (.invokevirtual 275, 3) := by decide +kernel
theorem dX8_right_122 : decode cX8_right 122 = .ok (.aload_n 0, 1) := by decide +kernel
theorem dX8_right_123 : decode cX8_right 123 = .ok (.getfield 25, 3) := by decide +kernel
theorem dX8_right_126 : decode cX8_right 126 = .ok (.iload_n 2, 1) := by decide +kernel
theorem dX8_right_127 : decode cX8_right 127 = .ok (.invokevirtual 114, 3) := by decide +kernel
theorem dX8_right_130 : decode cX8_right 130 = .ok (.invokevirtual 119, 3) := by decide +kernel
theorem dX8_right_133 : decode cX8_right 133 = .ok (.ifCond .eq 7, 3) := by decide +kernel
theorem dX8_right_136 : decode cX8_right 136 = .ok (.iconst 1, 1) := by decide +kernel
theorem dX8_right_137 : decode cX8_right 137 = .ok (.goto 4, 3) := by decide +kernel
theorem dX8_right_140 : decode cX8_right 140 = .ok (.iconst 0, 1) := by decide +kernel
theorem dX8_right_141 : decode cX8_right 141 = .ok (.ireturn, 1) := by decide +kernel
theorem dX8_order_0 : decode cX8_order 0 = .ok (.aload_n 0, 1) := by decide +kernel
theorem dX8_order_1 : decode cX8_order 1 = .ok (.getfield 53, 3) := by decide +kernel
theorem dX8_order_4 : decode cX8_order 4 = .ok (.aload_n 0, 1) := by decide +kernel
theorem dX8_order_5 : decode cX8_order 5 = .ok (.getfield 30, 3) := by decide +kernel
theorem dX8_order_8 : decode cX8_order 8 = .ok (.aload_n 0, 1) := by decide +kernel
theorem dX8_order_9 : decode cX8_order 9 = .ok (.getfield 10, 3) := by decide +kernel
theorem dX8_order_12 : decode cX8_order 12 = .ok (.invokevirtual 90, 3) := by decide +kernel
theorem dX8_order_15 : decode cX8_order 15 = .ok (.invokevirtual 278, 3) := by decide +kernel
theorem dX8_order_18 : decode cX8_order 18 = .ok (.ireturn, 1) := by decide +kernel
theorem dX8_ordered_0 : decode cX8_ordered 0 = .ok (.iload_n 1, 1) := by decide +kernel
theorem dX8_ordered_1 : decode cX8_ordered 1 = .ok (.ifCond .lt 14, 3) := by decide +kernel
theorem dX8_ordered_4 : decode cX8_ordered 4 = .ok (.iload_n 1, 1) := by decide +kernel
theorem dX8_ordered_5 : decode cX8_ordered 5 = .ok (.aload_n 0, 1) := by decide +kernel
theorem dX8_ordered_6 : decode cX8_ordered 6 = .ok (.getfield 53, 3) := by decide +kernel
theorem dX8_ordered_9 : decode cX8_ordered 9 = .ok (.getfield 282, 3) := by decide +kernel
theorem dX8_ordered_12 : decode cX8_ordered 12 = .ok (.if_icmp .lt 6, 3) := by decide +kernel
theorem dX8_ordered_15 : decode cX8_ordered 15 = .ok (.bipush (-3), 2) := by decide +kernel
theorem dX8_ordered_17 : decode cX8_ordered 17 = .ok (.ireturn, 1) := by decide +kernel
theorem dX8_ordered_18 : decode cX8_ordered 18 = .ok (.aload_n 0, 1) := by decide +kernel
theorem dX8_ordered_19 : decode cX8_ordered 19 = .ok (.getfield 53, 3) := by decide +kernel
theorem dX8_ordered_22 : decode cX8_ordered 22 = .ok (.getfield 285, 3) := by decide +kernel
theorem dX8_ordered_25 : decode cX8_ordered 25 = .ok (.iload_n 1, 1) := by decide +kernel
theorem dX8_ordered_26 : decode cX8_ordered 26 = .ok (.iaload, 1) := by decide +kernel
theorem dX8_ordered_27 : decode cX8_ordered 27 = .ok (.ireturn, 1) := by decide +kernel
theorem dX8_row_0 : decode cX8_row 0 = .ok (.iload_n 2, 1) := by decide +kernel
theorem dX8_row_1 : decode cX8_row 1 = .ok (.ifCond .lt 8, 3) := by decide +kernel
theorem dX8_row_4 : decode cX8_row 4 = .ok (.iload_n 2, 1) := by decide +kernel
theorem dX8_row_5 : decode cX8_row 5 = .ok (.iconst 3, 1) := by decide +kernel
theorem dX8_row_6 : decode cX8_row 6 = .ok (.if_icmp .lt 5, 3) := by decide +kernel
theorem dX8_row_9 : decode cX8_row 9 = .ok (.iconst (-1), 1) := by decide +kernel
theorem dX8_row_10 : decode cX8_row 10 = .ok (.ireturn, 1) := by decide +kernel
theorem dX8_row_11 : decode cX8_row 11 = .ok (.iload_n 1, 1) := by decide +kernel
theorem dX8_row_12 : decode cX8_row 12 = .ok (.ifCond .lt 14, 3) := by decide +kernel
theorem dX8_row_15 : decode cX8_row 15 = .ok (.iload_n 1, 1) := by decide +kernel
theorem dX8_row_16 : decode cX8_row 16 = .ok (.aload_n 0, 1) := by decide +kernel
theorem dX8_row_17 : decode cX8_row 17 = .ok (.getfield 53, 3) := by decide +kernel
theorem dX8_row_20 : decode cX8_row 20 = .ok (.getfield 288, 3) := by decide +kernel
theorem dX8_row_23 : decode cX8_row 23 = .ok (.if_icmp .lt 6, 3) := by decide +kernel
theorem dX8_row_26 : decode cX8_row 26 = .ok (.bipush (-3), 2) := by decide +kernel
theorem dX8_row_28 : decode cX8_row 28 = .ok (.ireturn, 1) := by decide +kernel
theorem dX8_row_29 : decode cX8_row 29 = .ok (.aload_n 0, 1) := by decide +kernel
theorem dX8_row_30 : decode cX8_row 30 = .ok (.getfield 53, 3) := by decide +kernel
theorem dX8_row_33 : decode cX8_row 33 = .ok (.getfield 291, 3) := by decide +kernel
theorem dX8_row_36 : decode cX8_row 36 = .ok (.iload_n 1, 1) := by decide +kernel
theorem dX8_row_37 : decode cX8_row 37 = .ok (.iconst 3, 1) := by decide +kernel
theorem dX8_row_38 : decode cX8_row 38 = .ok (.imul, 1) := by decide +kernel
theorem dX8_row_39 : decode cX8_row 39 = .ok (.iload_n 2, 1) := by decide +kernel
theorem dX8_row_40 : decode cX8_row 40 = .ok (.iadd, 1) := by decide +kernel
theorem dX8_row_41 : decode cX8_row 41 = .ok (.iaload, 1) := by decide +kernel
theorem dX8_row_42 : decode cX8_row 42 = .ok (.ireturn, 1) := by decide +kernel
theorem dX8_alter_0 : decode cX8_alter 0 = .ok (.iload_n 2, 1) := by decide +kernel
theorem dX8_alter_1 : decode cX8_alter 1 = .ok (.ifCond .lt 8, 3) := by decide +kernel
theorem dX8_alter_4 : decode cX8_alter 4 = .ok (.iload_n 2, 1) := by decide +kernel
theorem dX8_alter_5 : decode cX8_alter 5 = .ok (.iconst 3, 1) := by decide +kernel
theorem dX8_alter_6 : decode cX8_alter 6 = .ok (.if_icmp .lt 5, 3) := by decide +kernel
theorem dX8_alter_9 : decode cX8_alter 9 = .ok (.iconst (-1), 1) := by decide +kernel
theorem dX8_alter_10 : decode cX8_alter 10 = .ok (.ireturn, 1) := by decide +kernel
theorem dX8_alter_11 : decode cX8_alter 11 = .ok (.iload_n 1, 1) := by decide +kernel
theorem dX8_alter_12 : decode cX8_alter 12 = .ok (.ifCond .lt 14, 3) := by decide +kernel
theorem dX8_alter_15 : decode cX8_alter 15 = .ok (.iload_n 1, 1) := by decide +kernel
theorem dX8_alter_16 : decode cX8_alter 16 = .ok (.aload_n 0, 1) := by decide +kernel
theorem dX8_alter_17 : decode cX8_alter 17 = .ok (.getfield 53, 3) := by decide +kernel
theorem dX8_alter_20 : decode cX8_alter 20 = .ok (.getfield 288, 3) := by decide +kernel
theorem dX8_alter_23 : decode cX8_alter 23 = .ok (.if_icmp .lt 6, 3) := by decide +kernel
theorem dX8_alter_26 : decode cX8_alter 26 = .ok (.bipush (-3), 2) := by decide +kernel
theorem dX8_alter_28 : decode cX8_alter 28 = .ok (.ireturn, 1) := by decide +kernel
theorem dX8_alter_29 : decode cX8_alter 29 = .ok (.aload_n 0, 1) := by decide +kernel
theorem dX8_alter_30 : decode cX8_alter 30 = .ok (.getfield 53, 3) := by decide +kernel
theorem dX8_alter_33 : decode cX8_alter 33 = .ok (.getfield 291, 3) := by decide +kernel
theorem dX8_alter_36 : decode cX8_alter 36 = .ok (.iload_n 1, 1) := by decide +kernel
theorem dX8_alter_37 : decode cX8_alter 37 = .ok (.iconst 3, 1) := by decide +kernel
theorem dX8_alter_38 : decode cX8_alter 38 = .ok (.imul, 1) := by decide +kernel
theorem dX8_alter_39 : decode cX8_alter 39 = .ok (.iload_n 2, 1) := by decide +kernel
theorem dX8_alter_40 : decode cX8_alter 40 = .ok (.iadd, 1) := by decide +kernel
theorem dX8_alter_41 : decode cX8_alter 41 = .ok (.iaload, 1) := by decide +kernel
theorem dX8_alter_42 : decode cX8_alter 42 = .ok (.istore 4, 2) := by decide +kernel
theorem dX8_alter_44 : decode cX8_alter 44 = .ok (.aload_n 0, 1) := by decide +kernel
theorem dX8_alter_45 : decode cX8_alter 45 = .ok (.getfield 53, 3) := by decide +kernel
theorem dX8_alter_48 : decode cX8_alter 48 = .ok (.getfield 291, 3) := by decide +kernel
theorem dX8_alter_51 : decode cX8_alter 51 = .ok (.iload_n 1, 1) := by decide +kernel
theorem dX8_alter_52 : decode cX8_alter 52 = .ok (.iconst 3, 1) := by decide +kernel
theorem dX8_alter_53 : decode cX8_alter 53 = .ok (.imul, 1) := by decide +kernel
theorem dX8_alter_54 : decode cX8_alter 54 = .ok (.iload_n 2, 1) := by decide +kernel
theorem dX8_alter_55 : decode cX8_alter 55 = .ok (.iadd, 1) := by decide +kernel
theorem dX8_alter_56 : decode cX8_alter 56 = .ok (.iload_n 3, 1) := by decide +kernel
theorem dX8_alter_57 : decode cX8_alter 57 = .ok (.iastore, 1) := by decide +kernel
theorem dX8_alter_58 : decode cX8_alter 58 = .ok (.iload 4, 2) := by decide +kernel
theorem dX8_alter_60 : decode cX8_alter 60 = .ok (.ireturn, 1) := by decide +kernel
theorem dX8_drop_0 : decode cX8_drop 0 = .ok (.aload_n 0, 1) := by decide +kernel
theorem dX8_drop_1 : decode cX8_drop 1 = .ok (.getfield 53, 3) := by decide +kernel
theorem dX8_drop_4 : decode cX8_drop 4 = .ok (.getfield 288, 3) := by decide +kernel
theorem dX8_drop_7 : decode cX8_drop 7 = .ok (.ifCond .ne 6, 3) := by decide +kernel
theorem dX8_drop_10 : decode cX8_drop 10 = .ok (.bipush (-3), 2) := by decide +kernel
theorem dX8_drop_12 : decode cX8_drop 12 = .ok (.ireturn, 1) := by decide +kernel
theorem dX8_drop_13 : decode cX8_drop 13 = .ok (.aload_n 0, 1) := by decide +kernel
theorem dX8_drop_14 : decode cX8_drop 14 = .ok (.getfield 53, 3) := by decide +kernel
theorem dX8_drop_17 : decode cX8_drop 17 = .ok (.dup, 1) := by decide +kernel
theorem dX8_drop_18 : decode cX8_drop 18 = .ok (.getfield 288, 3) := by decide +kernel
theorem dX8_drop_21 : decode cX8_drop 21 = .ok (.iconst 1, 1) := by decide +kernel
theorem dX8_drop_22 : decode cX8_drop 22 = .ok (.isub, 1) := by decide +kernel
theorem dX8_drop_23 : decode cX8_drop 23 = .ok (.putfield 288, 3) := by decide +kernel
theorem dX8_drop_26 : decode cX8_drop 26 = .ok (.aload_n 0, 1) := by decide +kernel
theorem dX8_drop_27 : decode cX8_drop 27 = .ok (.getfield 53, 3) := by decide +kernel
theorem dX8_drop_30 : decode cX8_drop 30 = .ok (.getfield 288, 3) := by decide +kernel
theorem dX8_drop_33 : decode cX8_drop 33 = .ok (.ireturn, 1) := by decide +kernel
theorem dX8_check_0 : decode cX8_check 0 = .ok (.aload_n 0, 1) := by decide +kernel
theorem dX8_check_1 : decode cX8_check 1 = .ok (.getfield 53, 3) := by decide +kernel
theorem dX8_check_4 : decode cX8_check 4 = .ok (.getfield 294, 3) := by decide +kernel
theorem dX8_check_7 : decode cX8_check 7 = .ok (.ifCond .eq 13, 3) := by decide +kernel
theorem dX8_check_10 : decode cX8_check 10 = .ok (.aload_n 0, 1) := by decide +kernel
theorem dX8_check_11 : decode cX8_check 11 = .ok (.getfield 53, 3) := by decide +kernel
theorem dX8_check_14 : decode cX8_check 14 = .ok (.invokevirtual 298, 3) := by decide +kernel
theorem dX8_check_17 : decode cX8_check 17 = .ok (.goto 5, 3) := by decide +kernel
theorem dX8_check_20 : decode cX8_check 20 = .ok (.bipush (-3), 2) := by decide +kernel
theorem dX8_check_22 : decode cX8_check 22 = .ok (.ireturn, 1) := by decide +kernel
theorem dX8_many_0 : decode cX8_many 0 = .ok (.iload_n 1, 1) := by decide +kernel
theorem dX8_many_1 : decode cX8_many 1 = .ok (.tableswitch 154 0 10 #[59, 64, 72, 80, 88, 100, 111, 119, 130, 138, 146], 59) := by decide +kernel
theorem dX8_many_60 : decode cX8_many 60 = .ok (.aload_n 0, 1) := by decide +kernel
theorem dX8_many_61 : decode cX8_many 61 = .ok (.getfield 57, 3) := by decide +kernel
theorem dX8_many_64 : decode cX8_many 64 = .ok (.ireturn, 1) := by decide +kernel
theorem dX8_many_65 : decode cX8_many 65 = .ok (.aload_n 0, 1) := by decide +kernel
theorem dX8_many_66 : decode cX8_many 66 = .ok (.getfield 20, 3) := by decide +kernel
theorem dX8_many_69 : decode cX8_many 69 = .ok (.getfield 65, 3) := by decide +kernel
theorem dX8_many_72 : decode cX8_many 72 = .ok (.ireturn, 1) := by decide +kernel
theorem dX8_many_73 : decode cX8_many 73 = .ok (.aload_n 0, 1) := by decide +kernel
theorem dX8_many_74 : decode cX8_many 74 = .ok (.getfield 25, 3) := by decide +kernel
theorem dX8_many_77 : decode cX8_many 77 = .ok (.getfield 151, 3) := by decide +kernel
theorem dX8_many_80 : decode cX8_many 80 = .ok (.ireturn, 1) := by decide +kernel
theorem dX8_many_81 : decode cX8_many 81 = .ok (.aload_n 0, 1) := by decide +kernel
theorem dX8_many_82 : decode cX8_many 82 = .ok (.getfield 30, 3) := by decide +kernel
theorem dX8_many_85 : decode cX8_many 85 = .ok (.getfield 179, 3) := by decide +kernel
theorem dX8_many_88 : decode cX8_many 88 = .ok (.ireturn, 1) := by decide +kernel
theorem dX8_many_89 : decode cX8_many 89 = .ok (.aload_n 0, 1) := by decide +kernel
theorem dX8_many_90 : decode cX8_many 90 = .ok (.getfield 30, 3) := by decide +kernel
theorem dX8_many_93 : decode cX8_many 93 = .ok (.iconst 3, 1) := by decide +kernel
theorem dX8_many_94 : decode cX8_many 94 = .ok (.invokevirtual 131, 3) := by decide +kernel
theorem dX8_many_97 : decode cX8_many 97 = .ok (.invokestatic 200, 3) := by decide +kernel
theorem dX8_many_100 : decode cX8_many 100 = .ok (.ireturn, 1) := by decide +kernel
theorem dX8_many_101 : decode cX8_many 101 = .ok (.aload_n 0, 1) := by decide +kernel
theorem dX8_many_102 : decode cX8_many 102 = .ok (.getfield 10, 3) := by decide +kernel
theorem dX8_many_105 : decode cX8_many 105 = .ok (.invokevirtual 90, 3) := by decide +kernel
theorem dX8_many_108 : decode cX8_many 108 = .ok (.invokestatic 200, 3) := by decide +kernel
theorem dX8_many_111 : decode cX8_many 111 = .ok (.ireturn, 1) := by decide +kernel
theorem dX8_many_112 : decode cX8_many 112 = .ok (.aload_n 0, 1) := by decide +kernel
theorem dX8_many_113 : decode cX8_many 113 = .ok (.getfield 35, 3) := by decide +kernel
theorem dX8_many_116 : decode cX8_many 116 = .ok (.invokevirtual 301, 3) := by decide +kernel
theorem dX8_many_119 : decode cX8_many 119 = .ok (.ireturn, 1) := by decide +kernel
theorem dX8_many_120 : decode cX8_many 120 = .ok (.aload_n 0, 1) := by decide +kernel
theorem dX8_many_121 : decode cX8_many 121 = .ok (.getfield 35, 3) := by decide +kernel
theorem dX8_many_124 : decode cX8_many 124 = .ok (.getfield 304, 3) := by decide +kernel
theorem dX8_many_127 : decode cX8_many 127 = .ok (.invokestatic 200, 3) := by decide +kernel
theorem dX8_many_130 : decode cX8_many 130 = .ok (.ireturn, 1) := by decide +kernel
theorem dX8_many_131 : decode cX8_many 131 = .ok (.aload_n 0, 1) := by decide +kernel
theorem dX8_many_132 : decode cX8_many 132 = .ok (.getfield 39, 3) := by decide +kernel
theorem dX8_many_135 : decode cX8_many 135 = .ok (.getfield 138, 3) := by decide +kernel
theorem dX8_many_138 : decode cX8_many 138 = .ok (.ireturn, 1) := by decide +kernel
theorem dX8_many_139 : decode cX8_many 139 = .ok (.aload_n 0, 1) := by decide +kernel
theorem dX8_many_140 : decode cX8_many 140 = .ok (.getfield 53, 3) := by decide +kernel
theorem dX8_many_143 : decode cX8_many 143 = .ok (.getfield 288, 3) := by decide +kernel
theorem dX8_many_146 : decode cX8_many 146 = .ok (.ireturn, 1) := by decide +kernel
theorem dX8_many_147 : decode cX8_many 147 = .ok (.aload_n 0, 1) := by decide +kernel
theorem dX8_many_148 : decode cX8_many 148 = .ok (.getfield 30, 3) := by decide +kernel
theorem dX8_many_151 : decode cX8_many 151 = .ok (.invokevirtual 307, 3) := by decide +kernel
theorem dX8_many_154 : decode cX8_many 154 = .ok (.ireturn, 1) := by decide +kernel
theorem dX8_many_155 : decode cX8_many 155 = .ok (.iconst (-1), 1) := by decide +kernel
theorem dX8_many_156 : decode cX8_many 156 = .ok (.ireturn, 1) := by decide +kernel
theorem dX8_isPlace_0 : decode cX8_isPlace 0 = .ok (.iload_n 0, 1) := by decide +kernel
theorem dX8_isPlace_1 : decode cX8_isPlace 1 = .ok (.ifCond .lt 13, 3) := by decide +kernel
theorem dX8_isPlace_4 : decode cX8_isPlace 4 = .ok (.iload_n 0, 1) := by decide +kernel
theorem dX8_isPlace_5 : decode cX8_isPlace 5 = .ok (.bipush 10, 2) := by decide +kernel
theorem dX8_isPlace_7 : decode cX8_isPlace 7 = .ok (.if_icmp .ge 7, 3) := by decide +kernel
theorem dX8_isPlace_10 : decode cX8_isPlace 10 = .ok (.iconst 1, 1) := by decide +kernel
theorem dX8_isPlace_11 : decode cX8_isPlace 11 = .ok (.goto 4, 3) := by decide +kernel
theorem dX8_isPlace_14 : decode cX8_isPlace 14 = .ok (.iconst 0, 1) := by decide +kernel
theorem dX8_isPlace_15 : decode cX8_isPlace 15 = .ok (.ireturn, 1) := by decide +kernel
theorem dX8_isMan_0 : decode cX8_isMan 0 = .ok (.iload_n 0, 1) := by decide +kernel
theorem dX8_isMan_1 : decode cX8_isMan 1 = .ok (.ifCond .lt 13, 3) := by decide +kernel
theorem dX8_isMan_4 : decode cX8_isMan 4 = .ok (.iload_n 0, 1) := by decide +kernel
theorem dX8_isMan_5 : decode cX8_isMan 5 = .ok (.bipush 8, 2) := by decide +kernel
theorem dX8_isMan_7 : decode cX8_isMan 7 = .ok (.if_icmp .ge 7, 3) := by decide +kernel
theorem dX8_isMan_10 : decode cX8_isMan 10 = .ok (.iconst 1, 1) := by decide +kernel
theorem dX8_isMan_11 : decode cX8_isMan 11 = .ok (.goto 4, 3) := by decide +kernel
theorem dX8_isMan_14 : decode cX8_isMan 14 = .ok (.iconst 0, 1) := by decide +kernel
theorem dX8_isMan_15 : decode cX8_isMan 15 = .ok (.ireturn, 1) := by decide +kernel
theorem dX8_isPast_0 : decode cX8_isPast 0 = .ok (.iload_n 1, 1) := by decide +kernel
theorem dX8_isPast_1 : decode cX8_isPast 1 = .ok (.ifCond .lt 15, 3) := by decide +kernel
theorem dX8_isPast_4 : decode cX8_isPast 4 = .ok (.iload_n 1, 1) := by decide +kernel
theorem dX8_isPast_5 : decode cX8_isPast 5 = .ok (.aload_n 0, 1) := by decide +kernel
theorem dX8_isPast_6 : decode cX8_isPast 6 = .ok (.getfield 57, 3) := by decide +kernel
theorem dX8_isPast_9 : decode cX8_isPast 9 = .ok (.if_icmp .gt 7, 3) := by decide +kernel
theorem dX8_isPast_12 : decode cX8_isPast 12 = .ok (.iconst 1, 1) := by decide +kernel
theorem dX8_isPast_13 : decode cX8_isPast 13 = .ok (.goto 4, 3) := by decide +kernel
theorem dX8_isPast_16 : decode cX8_isPast 16 = .ok (.iconst 0, 1) := by decide +kernel
theorem dX8_isPast_17 : decode cX8_isPast 17 = .ok (.ireturn, 1) := by decide +kernel
theorem dX8_refusalOf_0 : decode cX8_refusalOf 0 = .ok (.aload_n 0, 1) := by decide +kernel
theorem dX8_refusalOf_1 : decode cX8_refusalOf 1 = .ok (.getfield 30, 3) := by decide +kernel
theorem dX8_refusalOf_4 : decode cX8_refusalOf 4 = .ok (.iload_n 1, 1) := by decide +kernel
theorem dX8_refusalOf_5 : decode cX8_refusalOf 5 = .ok (.invokevirtual 182, 3) := by decide +kernel
theorem dX8_refusalOf_8 : decode cX8_refusalOf 8 = .ok (.ifCond .ne 5, 3) := by decide +kernel
theorem dX8_refusalOf_11 : decode cX8_refusalOf 11 = .ok (.iconst (-1), 1) := by decide +kernel
theorem dX8_refusalOf_12 : decode cX8_refusalOf 12 = .ok (.ireturn, 1) := by decide +kernel
theorem dX8_refusalOf_13 : decode cX8_refusalOf 13 = .ok (.aload_n 0, 1) := by decide +kernel
theorem dX8_refusalOf_14 : decode cX8_refusalOf 14 = .ok (.getfield 10, 3) := by decide +kernel
theorem dX8_refusalOf_17 : decode cX8_refusalOf 17 = .ok (.iload_n 1, 1) := by decide +kernel
theorem dX8_refusalOf_18 : decode cX8_refusalOf 18 = .ok (.iload_n 2, 1) := by decide +kernel
theorem dX8_refusalOf_19 : decode cX8_refusalOf 19 = .ok (.aload_n 0, 1) := by decide +kernel
theorem dX8_refusalOf_20 : decode cX8_refusalOf 20 = .ok (.getfield 57, 3) := by decide +kernel
theorem dX8_refusalOf_23 : decode cX8_refusalOf 23 = .ok (.invokevirtual 213, 3) := by decide +kernel
theorem dX8_refusalOf_26 : decode cX8_refusalOf 26 = .ok (.istore_n 3, 1) := by decide +kernel
theorem dX8_refusalOf_27 : decode cX8_refusalOf 27 = .ok (.iload_n 3, 1) := by decide +kernel
theorem dX8_refusalOf_28 : decode cX8_refusalOf 28 = .ok (.ifCond .ne 7, 3) := by decide +kernel
theorem dX8_refusalOf_31 : decode cX8_refusalOf 31 = .ok (.iconst 0, 1) := by decide +kernel
theorem dX8_refusalOf_32 : decode cX8_refusalOf 32 = .ok (.goto 7, 3) := by decide +kernel
theorem dX8_refusalOf_35 : decode cX8_refusalOf 35 = .ok (.bipush (-10), 2) := by decide +kernel
theorem dX8_refusalOf_37 : decode cX8_refusalOf 37 = .ok (.iload_n 3, 1) := by decide +kernel
theorem dX8_refusalOf_38 : decode cX8_refusalOf 38 = .ok (.isub, 1) := by decide +kernel
theorem dX8_refusalOf_39 : decode cX8_refusalOf 39 = .ok (.ireturn, 1) := by decide +kernel
theorem dJ6_bitCount_0f7a4_0 : decode cJ6_bitCount_0f7a4 0 = .ok (.iload_n 0, 1) := by decide +kernel
theorem dJ6_bitCount_0f7a4_1 : decode cJ6_bitCount_0f7a4 1 = .ok (.iload_n 0, 1) := by decide +kernel
theorem dJ6_bitCount_0f7a4_2 : decode cJ6_bitCount_0f7a4 2 = .ok (.iconst 1, 1) := by decide +kernel
theorem dJ6_bitCount_0f7a4_3 : decode cJ6_bitCount_0f7a4 3 = .ok (.iushr, 1) := by decide +kernel
theorem dJ6_bitCount_0f7a4_4 : decode cJ6_bitCount_0f7a4 4 = .ok (.ldc_w 265, 3) := by decide +kernel
theorem dJ6_bitCount_0f7a4_7 : decode cJ6_bitCount_0f7a4 7 = .ok (.iand, 1) := by decide +kernel
theorem dJ6_bitCount_0f7a4_8 : decode cJ6_bitCount_0f7a4 8 = .ok (.isub, 1) := by decide +kernel
theorem dJ6_bitCount_0f7a4_9 : decode cJ6_bitCount_0f7a4 9 = .ok (.istore_n 0, 1) := by decide +kernel
theorem dJ6_bitCount_0f7a4_10 : decode cJ6_bitCount_0f7a4 10 = .ok (.iload_n 0, 1) := by decide +kernel
theorem dJ6_bitCount_0f7a4_11 : decode cJ6_bitCount_0f7a4 11 = .ok (.ldc_w 266, 3) := by decide +kernel
theorem dJ6_bitCount_0f7a4_14 : decode cJ6_bitCount_0f7a4 14 = .ok (.iand, 1) := by decide +kernel
theorem dJ6_bitCount_0f7a4_15 : decode cJ6_bitCount_0f7a4 15 = .ok (.iload_n 0, 1) := by decide +kernel
theorem dJ6_bitCount_0f7a4_16 : decode cJ6_bitCount_0f7a4 16 = .ok (.iconst 2, 1) := by decide +kernel
theorem dJ6_bitCount_0f7a4_17 : decode cJ6_bitCount_0f7a4 17 = .ok (.iushr, 1) := by decide +kernel
theorem dJ6_bitCount_0f7a4_18 : decode cJ6_bitCount_0f7a4 18 = .ok (.ldc_w 266, 3) := by decide +kernel
theorem dJ6_bitCount_0f7a4_21 : decode cJ6_bitCount_0f7a4 21 = .ok (.iand, 1) := by decide +kernel
theorem dJ6_bitCount_0f7a4_22 : decode cJ6_bitCount_0f7a4 22 = .ok (.iadd, 1) := by decide +kernel
theorem dJ6_bitCount_0f7a4_23 : decode cJ6_bitCount_0f7a4 23 = .ok (.istore_n 0, 1) := by decide +kernel
theorem dJ6_bitCount_0f7a4_24 : decode cJ6_bitCount_0f7a4 24 = .ok (.iload_n 0, 1) := by decide +kernel
theorem dJ6_bitCount_0f7a4_25 : decode cJ6_bitCount_0f7a4 25 = .ok (.iload_n 0, 1) := by decide +kernel
theorem dJ6_bitCount_0f7a4_26 : decode cJ6_bitCount_0f7a4 26 = .ok (.iconst 4, 1) := by decide +kernel
theorem dJ6_bitCount_0f7a4_27 : decode cJ6_bitCount_0f7a4 27 = .ok (.iushr, 1) := by decide +kernel
theorem dJ6_bitCount_0f7a4_28 : decode cJ6_bitCount_0f7a4 28 = .ok (.iadd, 1) := by decide +kernel
theorem dJ6_bitCount_0f7a4_29 : decode cJ6_bitCount_0f7a4 29 = .ok (.ldc_w 267, 3) := by decide +kernel
theorem dJ6_bitCount_0f7a4_32 : decode cJ6_bitCount_0f7a4 32 = .ok (.iand, 1) := by decide +kernel
theorem dJ6_bitCount_0f7a4_33 : decode cJ6_bitCount_0f7a4 33 = .ok (.istore_n 0, 1) := by decide +kernel
theorem dJ6_bitCount_0f7a4_34 : decode cJ6_bitCount_0f7a4 34 = .ok (.iload_n 0, 1) := by decide +kernel
theorem dJ6_bitCount_0f7a4_35 : decode cJ6_bitCount_0f7a4 35 = .ok (.iload_n 0, 1) := by decide +kernel
theorem dJ6_bitCount_0f7a4_36 : decode cJ6_bitCount_0f7a4 36 = .ok (.bipush 8, 2) := by decide +kernel
theorem dJ6_bitCount_0f7a4_38 : decode cJ6_bitCount_0f7a4 38 = .ok (.iushr, 1) := by decide +kernel
theorem dJ6_bitCount_0f7a4_39 : decode cJ6_bitCount_0f7a4 39 = .ok (.iadd, 1) := by decide +kernel
theorem dJ6_bitCount_0f7a4_40 : decode cJ6_bitCount_0f7a4 40 = .ok (.istore_n 0, 1) := by decide +kernel
theorem dJ6_bitCount_0f7a4_41 : decode cJ6_bitCount_0f7a4 41 = .ok (.iload_n 0, 1) := by decide +kernel
theorem dJ6_bitCount_0f7a4_42 : decode cJ6_bitCount_0f7a4 42 = .ok (.iload_n 0, 1) := by decide +kernel
theorem dJ6_bitCount_0f7a4_43 : decode cJ6_bitCount_0f7a4 43 = .ok (.bipush 16, 2) := by decide +kernel
theorem dJ6_bitCount_0f7a4_45 : decode cJ6_bitCount_0f7a4 45 = .ok (.iushr, 1) := by decide +kernel
theorem dJ6_bitCount_0f7a4_46 : decode cJ6_bitCount_0f7a4 46 = .ok (.iadd, 1) := by decide +kernel
theorem dJ6_bitCount_0f7a4_47 : decode cJ6_bitCount_0f7a4 47 = .ok (.istore_n 0, 1) := by decide +kernel
theorem dJ6_bitCount_0f7a4_48 : decode cJ6_bitCount_0f7a4 48 = .ok (.iload_n 0, 1) := by decide +kernel
theorem dJ6_bitCount_0f7a4_49 : decode cJ6_bitCount_0f7a4 49 = .ok (.bipush 63, 2) := by decide +kernel
theorem dJ6_bitCount_0f7a4_51 : decode cJ6_bitCount_0f7a4 51 = .ok (.iand, 1) := by decide +kernel
theorem dJ6_bitCount_0f7a4_52 : decode cJ6_bitCount_0f7a4 52 = .ok (.ireturn, 1) := by decide +kernel
theorem dJ9_min_7cf53_0 : decode cJ9_min_7cf53 0 = .ok (.iload_n 0, 1) := by decide +kernel
theorem dJ9_min_7cf53_1 : decode cJ9_min_7cf53 1 = .ok (.iload_n 1, 1) := by decide +kernel
theorem dJ9_min_7cf53_2 : decode cJ9_min_7cf53 2 = .ok (.if_icmp .gt 7, 3) := by decide +kernel
theorem dJ9_min_7cf53_5 : decode cJ9_min_7cf53 5 = .ok (.iload_n 0, 1) := by decide +kernel
theorem dJ9_min_7cf53_6 : decode cJ9_min_7cf53 6 = .ok (.goto 4, 3) := by decide +kernel
theorem dJ9_min_7cf53_9 : decode cJ9_min_7cf53 9 = .ok (.iload_n 1, 1) := by decide +kernel
theorem dJ9_min_7cf53_10 : decode cJ9_min_7cf53 10 = .ok (.ireturn, 1) := by decide +kernel
theorem dJ0_length_8abf5_0 : decode cJ0_length_8abf5 0 = .ok (.aload_n 0, 1) := by decide +kernel
theorem dJ0_length_8abf5_1 : decode cJ0_length_8abf5 1 = .ok (.getfield 9, 3) := by decide +kernel
theorem dJ0_length_8abf5_4 : decode cJ0_length_8abf5 4 = .ok (.arraylength, 1) := by decide +kernel
theorem dJ0_length_8abf5_5 : decode cJ0_length_8abf5 5 = .ok (.aload_n 0, 1) := by decide +kernel
theorem dJ0_length_8abf5_6 : decode cJ0_length_8abf5 6 = .ok (.invokevirtual 335, 3) := by decide +kernel
theorem dJ0_length_8abf5_9 : decode cJ0_length_8abf5 9 = .ok (.ishr, 1) := by decide +kernel
theorem dJ0_length_8abf5_10 : decode cJ0_length_8abf5 10 = .ok (.ireturn, 1) := by decide +kernel
theorem dJ0_charAt_5068e_0 : decode cJ0_charAt_5068e 0 = .ok (.aload_n 0, 1) := by decide +kernel
theorem dJ0_charAt_5068e_1 : decode cJ0_charAt_5068e 1 = .ok (.invokevirtual 492, 3) := by decide +kernel
theorem dJ0_charAt_5068e_4 : decode cJ0_charAt_5068e 4 = .ok (.ifCond .eq 12, 3) := by decide +kernel
theorem dJ0_charAt_5068e_7 : decode cJ0_charAt_5068e 7 = .ok (.aload_n 0, 1) := by decide +kernel
theorem dJ0_charAt_5068e_8 : decode cJ0_charAt_5068e 8 = .ok (.getfield 9, 3) := by decide +kernel
theorem dJ0_charAt_5068e_11 : decode cJ0_charAt_5068e 11 = .ok (.iload_n 1, 1) := by decide +kernel
theorem dJ0_charAt_5068e_12 : decode cJ0_charAt_5068e 12 = .ok (.invokestatic 495, 3) := by decide +kernel
theorem dJ0_charAt_5068e_15 : decode cJ0_charAt_5068e 15 = .ok (.ireturn, 1) := by decide +kernel
theorem dJ0_charAt_5068e_16 : decode cJ0_charAt_5068e 16 = .ok (.aload_n 0, 1) := by decide +kernel
theorem dJ0_charAt_5068e_17 : decode cJ0_charAt_5068e 17 = .ok (.getfield 9, 3) := by decide +kernel
theorem dJ0_charAt_5068e_20 : decode cJ0_charAt_5068e 20 = .ok (.iload_n 1, 1) := by decide +kernel
theorem dJ0_charAt_5068e_21 : decode cJ0_charAt_5068e 21 = .ok (.invokestatic 498, 3) := by decide +kernel
theorem dJ0_charAt_5068e_24 : decode cJ0_charAt_5068e 24 = .ok (.ireturn, 1) := by decide +kernel
theorem dJ0_coder_7d493_0 : decode cJ0_coder_7d493 0 = .ok (.getstatic 38, 3) := by decide +kernel
theorem dJ0_coder_7d493_3 : decode cJ0_coder_7d493 3 = .ok (.ifCond .eq 10, 3) := by decide +kernel
theorem dJ0_coder_7d493_6 : decode cJ0_coder_7d493 6 = .ok (.aload_n 0, 1) := by decide +kernel
theorem dJ0_coder_7d493_7 : decode cJ0_coder_7d493 7 = .ok (.getfield 15, 3) := by decide +kernel
theorem dJ0_coder_7d493_10 : decode cJ0_coder_7d493 10 = .ok (.goto 4, 3) := by decide +kernel
theorem dJ0_coder_7d493_13 : decode cJ0_coder_7d493 13 = .ok (.iconst 1, 1) := by decide +kernel
theorem dJ0_coder_7d493_14 : decode cJ0_coder_7d493 14 = .ok (.ireturn, 1) := by decide +kernel
theorem dJ0_isLatin1_aae02_0 : decode cJ0_isLatin1_aae02 0 = .ok (.getstatic 38, 3) := by decide +kernel
theorem dJ0_isLatin1_aae02_3 : decode cJ0_isLatin1_aae02 3 = .ok (.ifCond .eq 14, 3) := by decide +kernel
theorem dJ0_isLatin1_aae02_6 : decode cJ0_isLatin1_aae02 6 = .ok (.aload_n 0, 1) := by decide +kernel
theorem dJ0_isLatin1_aae02_7 : decode cJ0_isLatin1_aae02 7 = .ok (.getfield 15, 3) := by decide +kernel
theorem dJ0_isLatin1_aae02_10 : decode cJ0_isLatin1_aae02 10 = .ok (.ifCond .ne 7, 3) := by decide +kernel
theorem dJ0_isLatin1_aae02_13 : decode cJ0_isLatin1_aae02 13 = .ok (.iconst 1, 1) := by decide +kernel
theorem dJ0_isLatin1_aae02_14 : decode cJ0_isLatin1_aae02 14 = .ok (.goto 4, 3) := by decide +kernel
theorem dJ0_isLatin1_aae02_17 : decode cJ0_isLatin1_aae02 17 = .ok (.iconst 0, 1) := by decide +kernel
theorem dJ0_isLatin1_aae02_18 : decode cJ0_isLatin1_aae02 18 = .ok (.ireturn, 1) := by decide +kernel
theorem dJ0_checkIndex_df160_0 : decode cJ0_checkIndex_df160 0 = .ok (.iload_n 0, 1) := by decide +kernel
theorem dJ0_checkIndex_df160_1 : decode cJ0_checkIndex_df160 1 = .ok (.iload_n 1, 1) := by decide +kernel
theorem dJ0_checkIndex_df160_2 : decode cJ0_checkIndex_df160 2 = .ok (.getstatic 1053, 3) := by decide +kernel
theorem dJ0_checkIndex_df160_5 : decode cJ0_checkIndex_df160 5 = .ok (.invokestatic 1059, 3) := by decide +kernel
theorem dJ0_checkIndex_df160_8 : decode cJ0_checkIndex_df160 8 = .ok (.pop, 1) := by decide +kernel
theorem dJ0_checkIndex_df160_9 : decode cJ0_checkIndex_df160 9 = .ok (.return_, 1) := by decide +kernel
theorem dJ1_charAt_3b067_0 : decode cJ1_charAt_3b067 0 = .ok (.iload_n 1, 1) := by decide +kernel
theorem dJ1_charAt_3b067_1 : decode cJ1_charAt_3b067 1 = .ok (.aload_n 0, 1) := by decide +kernel
theorem dJ1_charAt_3b067_2 : decode cJ1_charAt_3b067 2 = .ok (.arraylength, 1) := by decide +kernel
theorem dJ1_charAt_3b067_3 : decode cJ1_charAt_3b067 3 = .ok (.invokestatic 9, 3) := by decide +kernel
theorem dJ1_charAt_3b067_6 : decode cJ1_charAt_3b067 6 = .ok (.aload_n 0, 1) := by decide +kernel
theorem dJ1_charAt_3b067_7 : decode cJ1_charAt_3b067 7 = .ok (.iload_n 1, 1) := by decide +kernel
theorem dJ1_charAt_3b067_8 : decode cJ1_charAt_3b067 8 = .ok (.baload, 1) := by decide +kernel
theorem dJ1_charAt_3b067_9 : decode cJ1_charAt_3b067 9 = .ok (.sipush 255, 3) := by decide +kernel
theorem dJ1_charAt_3b067_12 : decode cJ1_charAt_3b067 12 = .ok (.iand, 1) := by decide +kernel
theorem dJ1_charAt_3b067_13 : decode cJ1_charAt_3b067 13 = .ok (.i2c, 1) := by decide +kernel
theorem dJ1_charAt_3b067_14 : decode cJ1_charAt_3b067 14 = .ok (.ireturn, 1) := by decide +kernel
theorem dJ2_getChar_3b067_0 : decode cJ2_getChar_3b067 0 = .ok (.getstatic 44, 3) := by decide +kernel
theorem dJ2_getChar_3b067_3 : decode cJ2_getChar_3b067 3 = .ok (.ifCond .ne 25, 3) := by decide +kernel
theorem dJ2_getChar_3b067_6 : decode cJ2_getChar_3b067 6 = .ok (.iload_n 1, 1) := by decide +kernel
theorem dJ2_getChar_3b067_7 : decode cJ2_getChar_3b067 7 = .ok (.ifCond .lt 11, 3) := by decide +kernel
theorem dJ2_getChar_3b067_10 : decode cJ2_getChar_3b067 10 = .ok (.iload_n 1, 1) := by decide +kernel
theorem dJ2_getChar_3b067_11 : decode cJ2_getChar_3b067 11 = .ok (.aload_n 0, 1) := by decide +kernel
theorem dJ2_getChar_3b067_12 : decode cJ2_getChar_3b067 12 = .ok (.invokestatic 48, 3) := by decide +kernel
theorem dJ2_getChar_3b067_15 : decode cJ2_getChar_3b067 15 = .ok (.if_icmp .lt 13, 3) := by decide +kernel
theorem dJ2_getChar_3b067_18 : decode cJ2_getChar_3b067 18 = .ok (.new 52, 3) := by decide +kernel
theorem dJ2_getChar_3b067_21 : decode cJ2_getChar_3b067 21 = .ok (.dup, 1) := by decide +kernel
theorem dJ2_getChar_3b067_22 : decode cJ2_getChar_3b067 22 = .ok (.ldc 54, 2) := by decide +kernel
theorem dJ2_getChar_3b067_24 : decode cJ2_getChar_3b067 24 = .ok (.invokespecial 56, 3) := by decide +kernel
theorem dJ2_getChar_3b067_27 : decode cJ2_getChar_3b067 27 = .ok (.athrow, 1) := by decide +kernel
theorem dJ2_getChar_3b067_28 : decode cJ2_getChar_3b067 28 = .ok (.iload_n 1, 1) := by decide +kernel
theorem dJ2_getChar_3b067_29 : decode cJ2_getChar_3b067 29 = .ok (.iconst 1, 1) := by decide +kernel
theorem dJ2_getChar_3b067_30 : decode cJ2_getChar_3b067 30 = .ok (.ishl, 1) := by decide +kernel
theorem dJ2_getChar_3b067_31 : decode cJ2_getChar_3b067 31 = .ok (.istore_n 1, 1) := by decide +kernel
theorem dJ2_getChar_3b067_32 : decode cJ2_getChar_3b067 32 = .ok (.aload_n 0, 1) := by decide +kernel
theorem dJ2_getChar_3b067_33 : decode cJ2_getChar_3b067 33 = .ok (.iload_n 1, 1) := by decide +kernel
theorem dJ2_getChar_3b067_34 : decode cJ2_getChar_3b067 34 = .ok (.iinc 1 1, 3) := by decide +kernel
theorem dJ2_getChar_3b067_37 : decode cJ2_getChar_3b067 37 = .ok (.baload, 1) := by decide +kernel
theorem dJ2_getChar_3b067_38 : decode cJ2_getChar_3b067 38 = .ok (.sipush 255, 3) := by decide +kernel
theorem dJ2_getChar_3b067_41 : decode cJ2_getChar_3b067 41 = .ok (.iand, 1) := by decide +kernel
theorem dJ2_getChar_3b067_42 : decode cJ2_getChar_3b067 42 = .ok (.getstatic 59, 3) := by decide +kernel
theorem dJ2_getChar_3b067_45 : decode cJ2_getChar_3b067 45 = .ok (.ishl, 1) := by decide +kernel
theorem dJ2_getChar_3b067_46 : decode cJ2_getChar_3b067 46 = .ok (.aload_n 0, 1) := by decide +kernel
theorem dJ2_getChar_3b067_47 : decode cJ2_getChar_3b067 47 = .ok (.iload_n 1, 1) := by decide +kernel
theorem dJ2_getChar_3b067_48 : decode cJ2_getChar_3b067 48 = .ok (.baload, 1) := by decide +kernel
theorem dJ2_getChar_3b067_49 : decode cJ2_getChar_3b067 49 = .ok (.sipush 255, 3) := by decide +kernel
theorem dJ2_getChar_3b067_52 : decode cJ2_getChar_3b067 52 = .ok (.iand, 1) := by decide +kernel
theorem dJ2_getChar_3b067_53 : decode cJ2_getChar_3b067 53 = .ok (.getstatic 63, 3) := by decide +kernel
theorem dJ2_getChar_3b067_56 : decode cJ2_getChar_3b067 56 = .ok (.ishl, 1) := by decide +kernel
theorem dJ2_getChar_3b067_57 : decode cJ2_getChar_3b067 57 = .ok (.ior, 1) := by decide +kernel
theorem dJ2_getChar_3b067_58 : decode cJ2_getChar_3b067 58 = .ok (.i2c, 1) := by decide +kernel
theorem dJ2_getChar_3b067_59 : decode cJ2_getChar_3b067 59 = .ok (.ireturn, 1) := by decide +kernel
theorem dJ2_length_9d52b_0 : decode cJ2_length_9d52b 0 = .ok (.aload_n 0, 1) := by decide +kernel
theorem dJ2_length_9d52b_1 : decode cJ2_length_9d52b 1 = .ok (.arraylength, 1) := by decide +kernel
theorem dJ2_length_9d52b_2 : decode cJ2_length_9d52b 2 = .ok (.iconst 1, 1) := by decide +kernel
theorem dJ2_length_9d52b_3 : decode cJ2_length_9d52b 3 = .ok (.ishr, 1) := by decide +kernel
theorem dJ2_length_9d52b_4 : decode cJ2_length_9d52b 4 = .ok (.ireturn, 1) := by decide +kernel
theorem dJ2_charAt_3b067_0 : decode cJ2_charAt_3b067 0 = .ok (.iload_n 1, 1) := by decide +kernel
theorem dJ2_charAt_3b067_1 : decode cJ2_charAt_3b067 1 = .ok (.aload_n 0, 1) := by decide +kernel
theorem dJ2_charAt_3b067_2 : decode cJ2_charAt_3b067 2 = .ok (.invokestatic 67, 3) := by decide +kernel
theorem dJ2_charAt_3b067_5 : decode cJ2_charAt_3b067 5 = .ok (.aload_n 0, 1) := by decide +kernel
theorem dJ2_charAt_3b067_6 : decode cJ2_charAt_3b067 6 = .ok (.iload_n 1, 1) := by decide +kernel
theorem dJ2_charAt_3b067_7 : decode cJ2_charAt_3b067 7 = .ok (.invokestatic 71, 3) := by decide +kernel
theorem dJ2_charAt_3b067_10 : decode cJ2_charAt_3b067 10 = .ok (.ireturn, 1) := by decide +kernel
theorem dJ2_checkIndex_2214a_0 : decode cJ2_checkIndex_2214a 0 = .ok (.iload_n 0, 1) := by decide +kernel
theorem dJ2_checkIndex_2214a_1 : decode cJ2_checkIndex_2214a 1 = .ok (.aload_n 1, 1) := by decide +kernel
theorem dJ2_checkIndex_2214a_2 : decode cJ2_checkIndex_2214a 2 = .ok (.invokestatic 48, 3) := by decide +kernel
theorem dJ2_checkIndex_2214a_5 : decode cJ2_checkIndex_2214a 5 = .ok (.invokestatic 414, 3) := by decide +kernel
theorem dJ2_checkIndex_2214a_8 : decode cJ2_checkIndex_2214a 8 = .ok (.return_, 1) := by decide +kernel
theorem dJ3_checkIndex_8e157_0 : decode cJ3_checkIndex_8e157 0 = .ok (.iload_n 0, 1) := by decide +kernel
theorem dJ3_checkIndex_8e157_1 : decode cJ3_checkIndex_8e157 1 = .ok (.ifCond .lt 8, 3) := by decide +kernel
theorem dJ3_checkIndex_8e157_4 : decode cJ3_checkIndex_8e157 4 = .ok (.iload_n 0, 1) := by decide +kernel
theorem dJ3_checkIndex_8e157_5 : decode cJ3_checkIndex_8e157 5 = .ok (.iload_n 1, 1) := by decide +kernel
theorem dJ3_checkIndex_8e157_6 : decode cJ3_checkIndex_8e157 6 = .ok (.if_icmp .lt 10, 3) := by decide +kernel
theorem dJ3_checkIndex_8e157_9 : decode cJ3_checkIndex_8e157 9 = .ok (.aload_n 2, 1) := by decide +kernel
theorem dJ3_checkIndex_8e157_10 : decode cJ3_checkIndex_8e157 10 = .ok (.iload_n 0, 1) := by decide +kernel
theorem dJ3_checkIndex_8e157_11 : decode cJ3_checkIndex_8e157 11 = .ok (.iload_n 1, 1) := by decide +kernel
theorem dJ3_checkIndex_8e157_12 : decode cJ3_checkIndex_8e157 12 = .ok (.invokestatic 95, 3) := by decide +kernel
theorem dJ3_checkIndex_8e157_15 : decode cJ3_checkIndex_8e157 15 = .ok (.athrow, 1) := by decide +kernel
theorem dJ3_checkIndex_8e157_16 : decode cJ3_checkIndex_8e157 16 = .ok (.iload_n 0, 1) := by decide +kernel
theorem dJ3_checkIndex_8e157_17 : decode cJ3_checkIndex_8e157 17 = .ok (.ireturn, 1) := by decide +kernel
