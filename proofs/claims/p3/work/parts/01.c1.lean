theorem dX7_begin_75 : decode cX7_begin 75 = .ok (.aload_n 0, 1) := by decide +kernel
theorem dX7_begin_76 : decode cX7_begin 76 = .ok (.iconst 0, 1) := by decide +kernel
theorem dX7_begin_77 : decode cX7_begin 77 = .ok (.putfield 80, 3) := by decide +kernel
theorem dX7_begin_80 : decode cX7_begin 80 = .ok (.aload_n 0, 1) := by decide +kernel
theorem dX7_begin_81 : decode cX7_begin 81 = .ok (.iconst 0, 1) := by decide +kernel
theorem dX7_begin_82 : decode cX7_begin 82 = .ok (.putfield 83, 3) := by decide +kernel
theorem dX7_begin_85 : decode cX7_begin 85 = .ok (.aload_n 0, 1) := by decide +kernel
theorem dX7_begin_86 : decode cX7_begin 86 = .ok (.iconst 0, 1) := by decide +kernel
theorem dX7_begin_87 : decode cX7_begin 87 = .ok (.putfield 86, 3) := by decide +kernel
theorem dX7_begin_90 : decode cX7_begin 90 = .ok (.aload_n 0, 1) := by decide +kernel
theorem dX7_begin_91 : decode cX7_begin 91 = .ok (.iconst 0, 1) := by decide +kernel
theorem dX7_begin_92 : decode cX7_begin 92 = .ok (.putfield 89, 3) := by decide +kernel
theorem dX7_begin_95 : decode cX7_begin 95 = .ok (.return_, 1) := by decide +kernel
theorem dX7_copyFrom_0 : decode cX7_copyFrom 0 = .ok (.aload_n 0, 1) := by decide +kernel
theorem dX7_copyFrom_1 : decode cX7_copyFrom 1 = .ok (.aload_n 1, 1) := by decide +kernel
theorem dX7_copyFrom_2 : decode cX7_copyFrom 2 = .ok (.getfield 52, 3) := by decide +kernel
theorem dX7_copyFrom_5 : decode cX7_copyFrom 5 = .ok (.putfield 52, 3) := by decide +kernel
theorem dX7_copyFrom_8 : decode cX7_copyFrom 8 = .ok (.iconst 0, 1) := by decide +kernel
theorem dX7_copyFrom_9 : decode cX7_copyFrom 9 = .ok (.istore_n 2, 1) := by decide +kernel
theorem dX7_copyFrom_10 : decode cX7_copyFrom 10 = .ok (.iload_n 2, 1) := by decide +kernel
theorem dX7_copyFrom_11 : decode cX7_copyFrom 11 = .ok (.aload_n 0, 1) := by decide +kernel
theorem dX7_copyFrom_12 : decode cX7_copyFrom 12 = .ok (.getfield 11, 3) := by decide +kernel
theorem dX7_copyFrom_15 : decode cX7_copyFrom 15 = .ok (.arraylength, 1) := by decide +kernel
theorem dX7_copyFrom_16 : decode cX7_copyFrom 16 = .ok (.if_icmp .ge 23, 3) := by decide +kernel
theorem dX7_copyFrom_19 : decode cX7_copyFrom 19 = .ok (.aload_n 0, 1) := by decide +kernel
theorem dX7_copyFrom_20 : decode cX7_copyFrom 20 = .ok (.getfield 11, 3) := by decide +kernel
theorem dX7_copyFrom_23 : decode cX7_copyFrom 23 = .ok (.iload_n 2, 1) := by decide +kernel
theorem dX7_copyFrom_24 : decode cX7_copyFrom 24 = .ok (.aaload, 1) := by decide +kernel
theorem dX7_copyFrom_25 : decode cX7_copyFrom 25 = .ok (.aload_n 1, 1) := by decide +kernel
theorem dX7_copyFrom_26 : decode cX7_copyFrom 26 = .ok (.iload_n 2, 1) := by decide +kernel
theorem dX7_copyFrom_27 : decode cX7_copyFrom 27 = .ok (.invokevirtual 92, 3) := by decide +kernel
theorem dX7_copyFrom_30 : decode cX7_copyFrom 30 = .ok (.invokevirtual 96, 3) := by decide +kernel
theorem dX7_copyFrom_33 : decode cX7_copyFrom 33 = .ok (.iinc 2 1, 3) := by decide +kernel
theorem dX7_copyFrom_36 : decode cX7_copyFrom 36 = .ok (.goto (-26), 3) := by decide +kernel
theorem dX7_copyFrom_39 : decode cX7_copyFrom 39 = .ok (.aload_n 0, 1) := by decide +kernel
theorem dX7_copyFrom_40 : decode cX7_copyFrom 40 = .ok (.getfield 20, 3) := by decide +kernel
theorem dX7_copyFrom_43 : decode cX7_copyFrom 43 = .ok (.aload_n 1, 1) := by decide +kernel
theorem dX7_copyFrom_44 : decode cX7_copyFrom 44 = .ok (.getfield 20, 3) := by decide +kernel
theorem dX7_copyFrom_47 : decode cX7_copyFrom 47 = .ok (.invokevirtual 100, 3) := by decide +kernel
theorem dX7_copyFrom_50 : decode cX7_copyFrom 50 = .ok (.aload_n 0, 1) := by decide +kernel
theorem dX7_copyFrom_51 : decode cX7_copyFrom 51 = .ok (.getfield 27, 3) := by decide +kernel
theorem dX7_copyFrom_54 : decode cX7_copyFrom 54 = .ok (.aload_n 1, 1) := by decide +kernel
theorem dX7_copyFrom_55 : decode cX7_copyFrom 55 = .ok (.getfield 27, 3) := by decide +kernel
theorem dX7_copyFrom_58 : decode cX7_copyFrom 58 = .ok (.invokevirtual 103, 3) := by decide +kernel
theorem dX7_copyFrom_61 : decode cX7_copyFrom 61 = .ok (.aload_n 0, 1) := by decide +kernel
theorem dX7_copyFrom_62 : decode cX7_copyFrom 62 = .ok (.aload_n 1, 1) := by decide +kernel
theorem dX7_copyFrom_63 : decode cX7_copyFrom 63 = .ok (.getfield 60, 3) := by decide +kernel
theorem dX7_copyFrom_66 : decode cX7_copyFrom 66 = .ok (.putfield 60, 3) := by decide +kernel
theorem dX7_copyFrom_69 : decode cX7_copyFrom 69 = .ok (.aload_n 0, 1) := by decide +kernel
theorem dX7_copyFrom_70 : decode cX7_copyFrom 70 = .ok (.aload_n 1, 1) := by decide +kernel
theorem dX7_copyFrom_71 : decode cX7_copyFrom 71 = .ok (.getfield 64, 3) := by decide +kernel
theorem dX7_copyFrom_74 : decode cX7_copyFrom 74 = .ok (.putfield 64, 3) := by decide +kernel
theorem dX7_copyFrom_77 : decode cX7_copyFrom 77 = .ok (.aload_n 0, 1) := by decide +kernel
theorem dX7_copyFrom_78 : decode cX7_copyFrom 78 = .ok (.aload_n 1, 1) := by decide +kernel
theorem dX7_copyFrom_79 : decode cX7_copyFrom 79 = .ok (.getfield 68, 3) := by decide +kernel
theorem dX7_copyFrom_82 : decode cX7_copyFrom 82 = .ok (.putfield 68, 3) := by decide +kernel
theorem dX7_copyFrom_85 : decode cX7_copyFrom 85 = .ok (.aload_n 0, 1) := by decide +kernel
theorem dX7_copyFrom_86 : decode cX7_copyFrom 86 = .ok (.aload_n 1, 1) := by decide +kernel
theorem dX7_copyFrom_87 : decode cX7_copyFrom 87 = .ok (.getfield 71, 3) := by decide +kernel
theorem dX7_copyFrom_90 : decode cX7_copyFrom 90 = .ok (.putfield 71, 3) := by decide +kernel
theorem dX7_copyFrom_93 : decode cX7_copyFrom 93 = .ok (.aload_n 0, 1) := by decide +kernel
theorem dX7_copyFrom_94 : decode cX7_copyFrom 94 = .ok (.aload_n 1, 1) := by decide +kernel
theorem dX7_copyFrom_95 : decode cX7_copyFrom 95 = .ok (.getfield 74, 3) := by decide +kernel
theorem dX7_copyFrom_98 : decode cX7_copyFrom 98 = .ok (.putfield 74, 3) := by decide +kernel
theorem dX7_copyFrom_101 : decode cX7_copyFrom 101 = .ok (.aload_n 0, 1) := by decide +kernel
theorem dX7_copyFrom_102 : decode cX7_copyFrom 102 = .ok (.aload_n 1, 1) := by decide +kernel
theorem dX7_copyFrom_103 : decode cX7_copyFrom 103 = .ok (.getfield 77, 3) := by decide +kernel
theorem dX7_copyFrom_106 : decode cX7_copyFrom 106 = .ok (.putfield 77, 3) := by decide +kernel
theorem dX7_copyFrom_109 : decode cX7_copyFrom 109 = .ok (.aload_n 0, 1) := by decide +kernel
theorem dX7_copyFrom_110 : decode cX7_copyFrom 110 = .ok (.aload_n 1, 1) := by decide +kernel
theorem dX7_copyFrom_111 : decode cX7_copyFrom 111 = .ok (.getfield 80, 3) := by decide +kernel
theorem dX7_copyFrom_114 : decode cX7_copyFrom 114 = .ok (.putfield 80, 3) := by decide +kernel
theorem dX7_copyFrom_117 : decode cX7_copyFrom 117 = .ok (.aload_n 0, 1) := by decide +kernel
theorem dX7_copyFrom_118 : decode cX7_copyFrom 118 = .ok (.aload_n 1, 1) := by decide +kernel
theorem dX7_copyFrom_119 : decode cX7_copyFrom 119 = .ok (.getfield 83, 3) := by decide +kernel
theorem dX7_copyFrom_122 : decode cX7_copyFrom 122 = .ok (.putfield 83, 3) := by decide +kernel
theorem dX7_copyFrom_125 : decode cX7_copyFrom 125 = .ok (.aload_n 0, 1) := by decide +kernel
theorem dX7_copyFrom_126 : decode cX7_copyFrom 126 = .ok (.aload_n 1, 1) := by decide +kernel
theorem dX7_copyFrom_127 : decode cX7_copyFrom 127 = .ok (.getfield 86, 3) := by decide +kernel
theorem dX7_copyFrom_130 : decode cX7_copyFrom 130 = .ok (.putfield 86, 3) := by decide +kernel
theorem dX7_copyFrom_133 : decode cX7_copyFrom 133 = .ok (.aload_n 0, 1) := by decide +kernel
theorem dX7_copyFrom_134 : decode cX7_copyFrom 134 = .ok (.aload_n 1, 1) := by decide +kernel
theorem dX7_copyFrom_135 : decode cX7_copyFrom 135 = .ok (.getfield 89, 3) := by decide +kernel
theorem dX7_copyFrom_138 : decode cX7_copyFrom 138 = .ok (.putfield 89, 3) := by decide +kernel
theorem dX7_copyFrom_141 : decode cX7_copyFrom 141 = .ok (.return_, 1) := by decide +kernel
theorem dX7_at_0 : decode cX7_at 0 = .ok (.aload_n 0, 1) := by decide +kernel
theorem dX7_at_1 : decode cX7_at 1 = .ok (.getfield 11, 3) := by decide +kernel
theorem dX7_at_4 : decode cX7_at 4 = .ok (.iload_n 1, 1) := by decide +kernel
theorem dX7_at_5 : decode cX7_at 5 = .ok (.bipush 7, 2) := by decide +kernel
theorem dX7_at_7 : decode cX7_at 7 = .ok (.iand, 1) := by decide +kernel
theorem dX7_at_8 : decode cX7_at 8 = .ok (.aaload, 1) := by decide +kernel
theorem dX7_at_9 : decode cX7_at 9 = .ok (.areturn, 1) := by decide +kernel
theorem dX7_clock_0 : decode cX7_clock 0 = .ok (.aload_n 0, 1) := by decide +kernel
theorem dX7_clock_1 : decode cX7_clock 1 = .ok (.getfield 52, 3) := by decide +kernel
theorem dX7_clock_4 : decode cX7_clock 4 = .ok (.iload_n 1, 1) := by decide +kernel
theorem dX7_clock_5 : decode cX7_clock 5 = .ok (.aload_n 0, 1) := by decide +kernel
theorem dX7_clock_6 : decode cX7_clock 6 = .ok (.getfield 64, 3) := by decide +kernel
theorem dX7_clock_9 : decode cX7_clock 9 = .ok (.invokevirtual 106, 3) := by decide +kernel
theorem dX7_clock_12 : decode cX7_clock 12 = .ok (.ireturn, 1) := by decide +kernel
theorem dX7_estimate_0 : decode cX7_estimate 0 = .ok (.aload_n 0, 1) := by decide +kernel
theorem dX7_estimate_1 : decode cX7_estimate 1 = .ok (.iload_n 1, 1) := by decide +kernel
theorem dX7_estimate_2 : decode cX7_estimate 2 = .ok (.invokevirtual 110, 3) := by decide +kernel
theorem dX7_estimate_5 : decode cX7_estimate 5 = .ok (.aload_n 0, 1) := by decide +kernel
theorem dX7_estimate_6 : decode cX7_estimate 6 = .ok (.iload_n 1, 1) := by decide +kernel
theorem dX7_estimate_7 : decode cX7_estimate 7 = .ok (.invokevirtual 92, 3) := by decide +kernel
theorem dX7_estimate_10 : decode cX7_estimate 10 = .ok (.getfield 113, 3) := by decide +kernel
theorem dX7_estimate_13 : decode cX7_estimate 13 = .ok (.iadd, 1) := by decide +kernel
theorem dX7_estimate_14 : decode cX7_estimate 14 = .ok (.ireturn, 1) := by decide +kernel
theorem dX7_error_0 : decode cX7_error 0 = .ok (.aload_n 0, 1) := by decide +kernel
theorem dX7_error_1 : decode cX7_error 1 = .ok (.iload_n 1, 1) := by decide +kernel
theorem dX7_error_2 : decode cX7_error 2 = .ok (.invokevirtual 116, 3) := by decide +kernel
theorem dX7_error_5 : decode cX7_error 5 = .ok (.aload_n 0, 1) := by decide +kernel
theorem dX7_error_6 : decode cX7_error 6 = .ok (.aload_n 0, 1) := by decide +kernel
theorem dX7_error_7 : decode cX7_error 7 = .ok (.getfield 68, 3) := by decide +kernel
theorem dX7_error_10 : decode cX7_error 10 = .ok (.invokevirtual 110, 3) := by decide +kernel
theorem dX7_error_13 : decode cX7_error 13 = .ok (.isub, 1) := by decide +kernel
theorem dX7_error_14 : decode cX7_error 14 = .ok (.ireturn, 1) := by decide +kernel
theorem dX7_delay_0 : decode cX7_delay 0 = .ok (.aload_n 0, 1) := by decide +kernel
theorem dX7_delay_1 : decode cX7_delay 1 = .ok (.getfield 52, 3) := by decide +kernel
theorem dX7_delay_4 : decode cX7_delay 4 = .ok (.iload_n 1, 1) := by decide +kernel
theorem dX7_delay_5 : decode cX7_delay 5 = .ok (.iload_n 2, 1) := by decide +kernel
theorem dX7_delay_6 : decode cX7_delay 6 = .ok (.invokevirtual 119, 3) := by decide +kernel
theorem dX7_delay_9 : decode cX7_delay 9 = .ok (.ireturn, 1) := by decide +kernel
theorem dX7_isCut_0 : decode cX7_isCut 0 = .ok (.aload_n 0, 1) := by decide +kernel
theorem dX7_isCut_1 : decode cX7_isCut 1 = .ok (.getfield 60, 3) := by decide +kernel
theorem dX7_isCut_4 : decode cX7_isCut 4 = .ok (.iload_n 1, 1) := by decide +kernel
theorem dX7_isCut_5 : decode cX7_isCut 5 = .ok (.iload_n 2, 1) := by decide +kernel
theorem dX7_isCut_6 : decode cX7_isCut 6 = .ok (.invokestatic 122, 3) := by decide +kernel
theorem dX7_isCut_9 : decode cX7_isCut 9 = .ok (.lshr, 1) := by decide +kernel
theorem dX7_isCut_10 : decode cX7_isCut 10 = .ok (.lconst 1, 1) := by decide +kernel
theorem dX7_isCut_11 : decode cX7_isCut 11 = .ok (.land, 1) := by decide +kernel
theorem dX7_isCut_12 : decode cX7_isCut 12 = .ok (.lconst 1, 1) := by decide +kernel
theorem dX7_isCut_13 : decode cX7_isCut 13 = .ok (.lcmp, 1) := by decide +kernel
theorem dX7_isCut_14 : decode cX7_isCut 14 = .ok (.ifCond .ne 7, 3) := by decide +kernel
theorem dX7_isCut_17 : decode cX7_isCut 17 = .ok (.iconst 1, 1) := by decide +kernel
theorem dX7_isCut_18 : decode cX7_isCut 18 = .ok (.goto 4, 3) := by decide +kernel
theorem dX7_isCut_21 : decode cX7_isCut 21 = .ok (.iconst 0, 1) := by decide +kernel
theorem dX7_isCut_22 : decode cX7_isCut 22 = .ok (.ireturn, 1) := by decide +kernel
theorem dX7_setCut_0 : decode cX7_setCut 0 = .ok (.lconst 1, 1) := by decide +kernel
theorem dX7_setCut_1 : decode cX7_setCut 1 = .ok (.iload_n 1, 1) := by decide +kernel
theorem dX7_setCut_2 : decode cX7_setCut 2 = .ok (.iload_n 2, 1) := by decide +kernel
theorem dX7_setCut_3 : decode cX7_setCut 3 = .ok (.invokestatic 122, 3) := by decide +kernel
theorem dX7_setCut_6 : decode cX7_setCut 6 = .ok (.lshl, 1) := by decide +kernel
theorem dX7_setCut_7 : decode cX7_setCut 7 = .ok (.lstore 4, 2) := by decide +kernel
theorem dX7_setCut_9 : decode cX7_setCut 9 = .ok (.aload_n 0, 1) := by decide +kernel
theorem dX7_setCut_10 : decode cX7_setCut 10 = .ok (.iload_n 3, 1) := by decide +kernel
theorem dX7_setCut_11 : decode cX7_setCut 11 = .ok (.ifCond .eq 13, 3) := by decide +kernel
theorem dX7_setCut_14 : decode cX7_setCut 14 = .ok (.aload_n 0, 1) := by decide +kernel
theorem dX7_setCut_15 : decode cX7_setCut 15 = .ok (.getfield 60, 3) := by decide +kernel
theorem dX7_setCut_18 : decode cX7_setCut 18 = .ok (.lload 4, 2) := by decide +kernel
theorem dX7_setCut_20 : decode cX7_setCut 20 = .ok (.lor, 1) := by decide +kernel
theorem dX7_setCut_21 : decode cX7_setCut 21 = .ok (.goto 14, 3) := by decide +kernel
theorem dX7_setCut_24 : decode cX7_setCut 24 = .ok (.aload_n 0, 1) := by decide +kernel
theorem dX7_setCut_25 : decode cX7_setCut 25 = .ok (.getfield 60, 3) := by decide +kernel
theorem dX7_setCut_28 : decode cX7_setCut 28 = .ok (.lload 4, 2) := by decide +kernel
theorem dX7_setCut_30 : decode cX7_setCut 30 = .ok (.ldc2_w 125, 3) := by decide +kernel
theorem dX7_setCut_33 : decode cX7_setCut 33 = .ok (.lxor, 1) := by decide +kernel
theorem dX7_setCut_34 : decode cX7_setCut 34 = .ok (.land, 1) := by decide +kernel
theorem dX7_setCut_35 : decode cX7_setCut 35 = .ok (.putfield 60, 3) := by decide +kernel
theorem dX7_setCut_38 : decode cX7_setCut 38 = .ok (.return_, 1) := by decide +kernel
theorem dX7_countUp_0 : decode cX7_countUp 0 = .ok (.iconst 0, 1) := by decide +kernel
theorem dX7_countUp_1 : decode cX7_countUp 1 = .ok (.istore_n 1, 1) := by decide +kernel
theorem dX7_countUp_2 : decode cX7_countUp 2 = .ok (.iconst 0, 1) := by decide +kernel
theorem dX7_countUp_3 : decode cX7_countUp 3 = .ok (.istore_n 2, 1) := by decide +kernel
theorem dX7_countUp_4 : decode cX7_countUp 4 = .ok (.iload_n 2, 1) := by decide +kernel
theorem dX7_countUp_5 : decode cX7_countUp 5 = .ok (.aload_n 0, 1) := by decide +kernel
theorem dX7_countUp_6 : decode cX7_countUp 6 = .ok (.getfield 52, 3) := by decide +kernel
theorem dX7_countUp_9 : decode cX7_countUp 9 = .ok (.getfield 127, 3) := by decide +kernel
theorem dX7_countUp_12 : decode cX7_countUp 12 = .ok (.if_icmp .ge 23, 3) := by decide +kernel
theorem dX7_countUp_15 : decode cX7_countUp 15 = .ok (.aload_n 0, 1) := by decide +kernel
theorem dX7_countUp_16 : decode cX7_countUp 16 = .ok (.iload_n 2, 1) := by decide +kernel
theorem dX7_countUp_17 : decode cX7_countUp 17 = .ok (.invokevirtual 92, 3) := by decide +kernel
theorem dX7_countUp_20 : decode cX7_countUp 20 = .ok (.getfield 129, 3) := by decide +kernel
theorem dX7_countUp_23 : decode cX7_countUp 23 = .ok (.ifCond .eq 6, 3) := by decide +kernel
theorem dX7_countUp_26 : decode cX7_countUp 26 = .ok (.iinc 1 1, 3) := by decide +kernel
theorem dX7_countUp_29 : decode cX7_countUp 29 = .ok (.iinc 2 1, 3) := by decide +kernel
theorem dX7_countUp_32 : decode cX7_countUp 32 = .ok (.goto (-28), 3) := by decide +kernel
theorem dX7_countUp_35 : decode cX7_countUp 35 = .ok (.iload_n 1, 1) := by decide +kernel
theorem dX7_countUp_36 : decode cX7_countUp 36 = .ok (.ireturn, 1) := by decide +kernel
theorem dX7_countSongs_0 : decode cX7_countSongs 0 = .ok (.iconst 0, 1) := by decide +kernel
theorem dX7_countSongs_1 : decode cX7_countSongs 1 = .ok (.istore_n 1, 1) := by decide +kernel
theorem dX7_countSongs_2 : decode cX7_countSongs 2 = .ok (.iconst 0, 1) := by decide +kernel
theorem dX7_countSongs_3 : decode cX7_countSongs 3 = .ok (.istore_n 2, 1) := by decide +kernel
theorem dX7_countSongs_4 : decode cX7_countSongs 4 = .ok (.iload_n 2, 1) := by decide +kernel
theorem dX7_countSongs_5 : decode cX7_countSongs 5 = .ok (.aload_n 0, 1) := by decide +kernel
theorem dX7_countSongs_6 : decode cX7_countSongs 6 = .ok (.getfield 52, 3) := by decide +kernel
theorem dX7_countSongs_9 : decode cX7_countSongs 9 = .ok (.getfield 127, 3) := by decide +kernel
theorem dX7_countSongs_12 : decode cX7_countSongs 12 = .ok (.if_icmp .ge 31, 3) := by decide +kernel
theorem dX7_countSongs_15 : decode cX7_countSongs 15 = .ok (.aload_n 0, 1) := by decide +kernel
theorem dX7_countSongs_16 : decode cX7_countSongs 16 = .ok (.iload_n 2, 1) := by decide +kernel
theorem dX7_countSongs_17 : decode cX7_countSongs 17 = .ok (.invokevirtual 92, 3) := by decide +kernel
theorem dX7_countSongs_20 : decode cX7_countSongs 20 = .ok (.getfield 129, 3) := by decide +kernel
theorem dX7_countSongs_23 : decode cX7_countSongs 23 = .ok (.ifCond .eq 14, 3) := by decide +kernel
theorem dX7_countSongs_26 : decode cX7_countSongs 26 = .ok (.aload_n 0, 1) := by decide +kernel
theorem dX7_countSongs_27 : decode cX7_countSongs 27 = .ok (.iload_n 2, 1) := by decide +kernel
theorem dX7_countSongs_28 : decode cX7_countSongs 28 = .ok (.invokevirtual 133, 3) := by decide +kernel
theorem dX7_countSongs_31 : decode cX7_countSongs 31 = .ok (.ifCond .eq 6, 3) := by decide +kernel
theorem dX7_countSongs_34 : decode cX7_countSongs 34 = .ok (.iinc 1 1, 3) := by decide +kernel
theorem dX7_countSongs_37 : decode cX7_countSongs 37 = .ok (.iinc 2 1, 3) := by decide +kernel
theorem dX7_countSongs_40 : decode cX7_countSongs 40 = .ok (.goto (-36), 3) := by decide +kernel
theorem dX7_countSongs_43 : decode cX7_countSongs 43 = .ok (.iload_n 1, 1) := by decide +kernel
theorem dX7_countSongs_44 : decode cX7_countSongs 44 = .ok (.ireturn, 1) := by decide +kernel
theorem dX7_isFirstWithItsSong_0 : decode cX7_isFirstWithItsSong 0 = .ok (.iconst 0, 1) := by decide +kernel
theorem dX7_isFirstWithItsSong_1 : decode cX7_isFirstWithItsSong 1 = .ok (.istore_n 2, 1) := by decide +kernel
theorem dX7_isFirstWithItsSong_2 : decode cX7_isFirstWithItsSong 2 = .ok (.iload_n 2, 1) := by decide +kernel
theorem dX7_isFirstWithItsSong_3 : decode cX7_isFirstWithItsSong 3 = .ok (.iload_n 1, 1) := by decide +kernel
theorem dX7_isFirstWithItsSong_4 : decode cX7_isFirstWithItsSong 4 = .ok (.if_icmp .ge 41, 3) := by decide +kernel
theorem dX7_isFirstWithItsSong_7 : decode cX7_isFirstWithItsSong 7 = .ok (.aload_n 0, 1) := by decide +kernel
theorem dX7_isFirstWithItsSong_8 : decode cX7_isFirstWithItsSong 8 = .ok (.iload_n 2, 1) := by decide +kernel
theorem dX7_isFirstWithItsSong_9 : decode cX7_isFirstWithItsSong 9 = .ok (.invokevirtual 92, 3) := by decide +kernel
theorem dX7_isFirstWithItsSong_12 : decode cX7_isFirstWithItsSong 12 = .ok (.getfield 129, 3) := by decide +kernel
theorem dX7_isFirstWithItsSong_15 : decode cX7_isFirstWithItsSong 15 = .ok (.ifCond .eq 24, 3) := by decide +kernel
theorem dX7_isFirstWithItsSong_18 : decode cX7_isFirstWithItsSong 18 = .ok (.aload_n 0, 1) := by decide +kernel
theorem dX7_isFirstWithItsSong_19 : decode cX7_isFirstWithItsSong 19 = .ok (.iload_n 2, 1) := by decide +kernel
theorem dX7_isFirstWithItsSong_20 : decode cX7_isFirstWithItsSong 20 = .ok (.invokevirtual 92, 3) := by decide +kernel
theorem dX7_isFirstWithItsSong_23 : decode cX7_isFirstWithItsSong 23 = .ok (.getfield 137, 3) := by decide +kernel
theorem dX7_isFirstWithItsSong_26 : decode cX7_isFirstWithItsSong 26 = .ok (.aload_n 0, 1) := by decide +kernel
theorem dX7_isFirstWithItsSong_27 : decode cX7_isFirstWithItsSong 27 = .ok (.iload_n 1, 1) := by decide +kernel
theorem dX7_isFirstWithItsSong_28 : decode cX7_isFirstWithItsSong 28 = .ok (.invokevirtual 92, 3) := by decide +kernel
theorem dX7_isFirstWithItsSong_31 : decode cX7_isFirstWithItsSong 31 = .ok (.getfield 137, 3) := by decide +kernel
theorem dX7_isFirstWithItsSong_34 : decode cX7_isFirstWithItsSong 34 = .ok (.if_icmp .ne 5, 3) := by decide +kernel
theorem dX7_isFirstWithItsSong_37 : decode cX7_isFirstWithItsSong 37 = .ok (.iconst 0, 1) := by decide +kernel
theorem dX7_isFirstWithItsSong_38 : decode cX7_isFirstWithItsSong 38 = .ok (.ireturn, 1) := by decide +kernel
theorem dX7_isFirstWithItsSong_39 : decode cX7_isFirstWithItsSong 39 = .ok (.iinc 2 1, 3) := by decide +kernel
theorem dX7_isFirstWithItsSong_42 : decode cX7_isFirstWithItsSong 42 = .ok (.goto (-40), 3) := by decide +kernel
theorem dX7_isFirstWithItsSong_45 : decode cX7_isFirstWithItsSong 45 = .ok (.iconst 1, 1) := by decide +kernel
theorem dX7_isFirstWithItsSong_46 : decode cX7_isFirstWithItsSong 46 = .ok (.ireturn, 1) := by decide +kernel
theorem dX7_greatestOpenDelay_0 : decode cX7_greatestOpenDelay 0 = .ok (.iconst 0, 1) := by decide +kernel
theorem dX7_greatestOpenDelay_1 : decode cX7_greatestOpenDelay 1 = .ok (.istore_n 1, 1) := by decide +kernel
theorem dX7_greatestOpenDelay_2 : decode cX7_greatestOpenDelay 2 = .ok (.iconst 0, 1) := by decide +kernel
theorem dX7_greatestOpenDelay_3 : decode cX7_greatestOpenDelay 3 = .ok (.istore_n 2, 1) := by decide +kernel
theorem dX7_greatestOpenDelay_4 : decode cX7_greatestOpenDelay 4 = .ok (.iload_n 2, 1) := by decide +kernel
theorem dX7_greatestOpenDelay_5 : decode cX7_greatestOpenDelay 5 = .ok (.aload_n 0, 1) := by decide +kernel
theorem dX7_greatestOpenDelay_6 : decode cX7_greatestOpenDelay 6 = .ok (.getfield 52, 3) := by decide +kernel
theorem dX7_greatestOpenDelay_9 : decode cX7_greatestOpenDelay 9 = .ok (.getfield 127, 3) := by decide +kernel
theorem dX7_greatestOpenDelay_12 : decode cX7_greatestOpenDelay 12 = .ok (.if_icmp .ge 48, 3) := by decide +kernel
theorem dX7_greatestOpenDelay_15 : decode cX7_greatestOpenDelay 15 = .ok (.iconst 0, 1) := by decide +kernel
theorem dX7_greatestOpenDelay_16 : decode cX7_greatestOpenDelay 16 = .ok (.istore_n 3, 1) := by decide +kernel
theorem dX7_greatestOpenDelay_17 : decode cX7_greatestOpenDelay 17 = .ok (.iload_n 3, 1) := by decide +kernel
theorem dX7_greatestOpenDelay_18 : decode cX7_greatestOpenDelay 18 = .ok (.aload_n 0, 1) := by decide +kernel
theorem dX7_greatestOpenDelay_19 : decode cX7_greatestOpenDelay 19 = .ok (.getfield 52, 3) := by decide +kernel
theorem dX7_greatestOpenDelay_22 : decode cX7_greatestOpenDelay 22 = .ok (.getfield 127, 3) := by decide +kernel
theorem dX7_greatestOpenDelay_25 : decode cX7_greatestOpenDelay 25 = .ok (.if_icmp .ge 29, 3) := by decide +kernel
theorem dX7_greatestOpenDelay_28 : decode cX7_greatestOpenDelay 28 = .ok (.aload_n 0, 1) := by decide +kernel
theorem dX7_greatestOpenDelay_29 : decode cX7_greatestOpenDelay 29 = .ok (.iload_n 2, 1) := by decide +kernel
theorem dX7_greatestOpenDelay_30 : decode cX7_greatestOpenDelay 30 = .ok (.iload_n 3, 1) := by decide +kernel
theorem dX7_greatestOpenDelay_31 : decode cX7_greatestOpenDelay 31 = .ok (.invokevirtual 140, 3) := by decide +kernel
theorem dX7_greatestOpenDelay_34 : decode cX7_greatestOpenDelay 34 = .ok (.ifCond .ne 14, 3) := by decide +kernel
theorem dX7_greatestOpenDelay_37 : decode cX7_greatestOpenDelay 37 = .ok (.iload_n 1, 1) := by decide +kernel
theorem dX7_greatestOpenDelay_38 : decode cX7_greatestOpenDelay 38 = .ok (.aload_n 0, 1) := by decide +kernel
theorem dX7_greatestOpenDelay_39 : decode cX7_greatestOpenDelay 39 = .ok (.iload_n 2, 1) := by decide +kernel
theorem dX7_greatestOpenDelay_40 : decode cX7_greatestOpenDelay 40 = .ok (.iload_n 3, 1) := by decide +kernel
theorem dX7_greatestOpenDelay_41 : decode cX7_greatestOpenDelay 41 = .ok (.invokevirtual 144, 3) := by decide +kernel
theorem dX7_greatestOpenDelay_44 : decode cX7_greatestOpenDelay 44 = .ok (.invokestatic 147, 3) := by decide +kernel
theorem dX7_greatestOpenDelay_47 : decode cX7_greatestOpenDelay 47 = .ok (.istore_n 1, 1) := by decide +kernel
theorem dX7_greatestOpenDelay_48 : decode cX7_greatestOpenDelay 48 = .ok (.iinc 3 1, 3) := by decide +kernel
theorem dX7_greatestOpenDelay_51 : decode cX7_greatestOpenDelay 51 = .ok (.goto (-34), 3) := by decide +kernel
theorem dX7_greatestOpenDelay_54 : decode cX7_greatestOpenDelay 54 = .ok (.iinc 2 1, 3) := by decide +kernel
theorem dX7_greatestOpenDelay_57 : decode cX7_greatestOpenDelay 57 = .ok (.goto (-53), 3) := by decide +kernel
theorem dX7_greatestOpenDelay_60 : decode cX7_greatestOpenDelay 60 = .ok (.iload_n 1, 1) := by decide +kernel
theorem dX7_greatestOpenDelay_61 : decode cX7_greatestOpenDelay 61 = .ok (.ireturn, 1) := by decide +kernel
theorem dX7_margin_0 : decode cX7_margin 0 = .ok (.aload_n 0, 1) := by decide +kernel
theorem dX7_margin_1 : decode cX7_margin 1 = .ok (.getfield 52, 3) := by decide +kernel
theorem dX7_margin_4 : decode cX7_margin 4 = .ok (.getfield 152, 3) := by decide +kernel
theorem dX7_margin_7 : decode cX7_margin 7 = .ok (.astore_n 2, 1) := by decide +kernel
theorem dX7_margin_8 : decode cX7_margin 8 = .ok (.aload_n 0, 1) := by decide +kernel
theorem dX7_margin_9 : decode cX7_margin 9 = .ok (.invokevirtual 156, 3) := by decide +kernel
theorem dX7_margin_12 : decode cX7_margin 12 = .ok (.istore_n 3, 1) := by decide +kernel
theorem dX7_margin_13 : decode cX7_margin 13 = .ok (.aload_n 2, 1) := by decide +kernel
theorem dX7_margin_14 : decode cX7_margin 14 = .ok (.ifnonnull 9, 3) := by decide +kernel
theorem dX7_margin_17 : decode cX7_margin 17 = .ok (.iconst 2, 1) := by decide +kernel
theorem dX7_margin_18 : decode cX7_margin 18 = .ok (.iload_n 3, 1) := by decide +kernel
theorem dX7_margin_19 : decode cX7_margin 19 = .ok (.imul, 1) := by decide +kernel
theorem dX7_margin_20 : decode cX7_margin 20 = .ok (.iconst 1, 1) := by decide +kernel
theorem dX7_margin_21 : decode cX7_margin 21 = .ok (.iadd, 1) := by decide +kernel
theorem dX7_margin_22 : decode cX7_margin 22 = .ok (.ireturn, 1) := by decide +kernel
theorem dX7_margin_23 : decode cX7_margin 23 = .ok (.aload_n 2, 1) := by decide +kernel
theorem dX7_margin_24 : decode cX7_margin 24 = .ok (.aload_n 0, 1) := by decide +kernel
theorem dX7_margin_25 : decode cX7_margin 25 = .ok (.getfield 52, 3) := by decide +kernel
theorem dX7_margin_28 : decode cX7_margin 28 = .ok (.getfield 127, 3) := by decide +kernel
theorem dX7_margin_31 : decode cX7_margin 31 = .ok (.iload_n 3, 1) := by decide +kernel
theorem dX7_margin_32 : decode cX7_margin 32 = .ok (.aload_n 0, 1) := by decide +kernel
theorem dX7_margin_33 : decode cX7_margin 33 = .ok (.invokevirtual 160, 3) := by decide +kernel
theorem dX7_margin_36 : decode cX7_margin 36 = .ok (.iload_n 1, 1) := by decide +kernel
theorem dX7_margin_37 : decode cX7_margin 37 = .ok (.invokevirtual 163, 3) := by decide +kernel
theorem dX7_margin_40 : decode cX7_margin 40 = .ok (.istore 4, 2) := by decide +kernel
theorem dX7_margin_42 : decode cX7_margin 42 = .ok (.iconst 1, 1) := by decide +kernel
theorem dX7_margin_43 : decode cX7_margin 43 = .ok (.sipush 1000, 3) := by decide +kernel
theorem dX7_margin_46 : decode cX7_margin 46 = .ok (.iload 4, 2) := by decide +kernel
theorem dX7_margin_48 : decode cX7_margin 48 = .ok (.invokestatic 169, 3) := by decide +kernel
theorem dX7_margin_51 : decode cX7_margin 51 = .ok (.invokestatic 147, 3) := by decide +kernel
theorem dX7_margin_54 : decode cX7_margin 54 = .ok (.ireturn, 1) := by decide +kernel
theorem dX7_count_0 : decode cX7_count 0 = .ok (.iload_n 1, 1) := by decide +kernel
theorem dX7_count_1 : decode cX7_count 1 = .ok (.tableswitch 129 0 11 #[63, 71, 76, 81, 89, 94, 99, 104, 109, 114, 119, 124], 63) := by decide +kernel
theorem dX7_count_64 : decode cX7_count 64 = .ok (.aload_n 0, 1) := by decide +kernel
theorem dX7_count_65 : decode cX7_count 65 = .ok (.getfield 52, 3) := by decide +kernel
theorem dX7_count_68 : decode cX7_count 68 = .ok (.getfield 127, 3) := by decide +kernel
theorem dX7_count_71 : decode cX7_count 71 = .ok (.ireturn, 1) := by decide +kernel
theorem dX7_count_72 : decode cX7_count 72 = .ok (.aload_n 0, 1) := by decide +kernel
theorem dX7_count_73 : decode cX7_count 73 = .ok (.getfield 64, 3) := by decide +kernel
theorem dX7_count_76 : decode cX7_count 76 = .ok (.ireturn, 1) := by decide +kernel
theorem dX7_count_77 : decode cX7_count 77 = .ok (.aload_n 0, 1) := by decide +kernel
theorem dX7_count_78 : decode cX7_count 78 = .ok (.getfield 68, 3) := by decide +kernel
theorem dX7_count_81 : decode cX7_count 81 = .ok (.ireturn, 1) := by decide +kernel
theorem dX7_count_82 : decode cX7_count 82 = .ok (.aload_n 0, 1) := by decide +kernel
theorem dX7_count_83 : decode cX7_count 83 = .ok (.getfield 20, 3) := by decide +kernel
theorem dX7_count_86 : decode cX7_count 86 = .ok (.getfield 172, 3) := by decide +kernel
theorem dX7_count_89 : decode cX7_count 89 = .ok (.ireturn, 1) := by decide +kernel
theorem dX7_count_90 : decode cX7_count 90 = .ok (.aload_n 0, 1) := by decide +kernel
theorem dX7_count_91 : decode cX7_count 91 = .ok (.getfield 71, 3) := by decide +kernel
theorem dX7_count_94 : decode cX7_count 94 = .ok (.ireturn, 1) := by decide +kernel
theorem dX7_count_95 : decode cX7_count 95 = .ok (.aload_n 0, 1) := by decide +kernel
theorem dX7_count_96 : decode cX7_count 96 = .ok (.getfield 74, 3) := by decide +kernel
theorem dX7_count_99 : decode cX7_count 99 = .ok (.ireturn, 1) := by decide +kernel
theorem dX7_count_100 : decode cX7_count 100 = .ok (.aload_n 0, 1) := by decide +kernel
theorem dX7_count_101 : decode cX7_count 101 = .ok (.getfield 77, 3) := by decide +kernel
theorem dX7_count_104 : decode cX7_count 104 = .ok (.ireturn, 1) := by decide +kernel
theorem dX7_count_105 : decode cX7_count 105 = .ok (.aload_n 0, 1) := by decide +kernel
theorem dX7_count_106 : decode cX7_count 106 = .ok (.getfield 80, 3) := by decide +kernel
theorem dX7_count_109 : decode cX7_count 109 = .ok (.ireturn, 1) := by decide +kernel
theorem dX7_count_110 : decode cX7_count 110 = .ok (.aload_n 0, 1) := by decide +kernel
theorem dX7_count_111 : decode cX7_count 111 = .ok (.getfield 83, 3) := by decide +kernel
theorem dX7_count_114 : decode cX7_count 114 = .ok (.ireturn, 1) := by decide +kernel
theorem dX7_count_115 : decode cX7_count 115 = .ok (.aload_n 0, 1) := by decide +kernel
theorem dX7_count_116 : decode cX7_count 116 = .ok (.invokevirtual 175, 3) := by decide +kernel
theorem dX7_count_119 : decode cX7_count 119 = .ok (.ireturn, 1) := by decide +kernel
theorem dX7_count_120 : decode cX7_count 120 = .ok (.aload_n 0, 1) := by decide +kernel
theorem dX7_count_121 : decode cX7_count 121 = .ok (.getfield 86, 3) := by decide +kernel
theorem dX7_count_124 : decode cX7_count 124 = .ok (.ireturn, 1) := by decide +kernel
theorem dX7_count_125 : decode cX7_count 125 = .ok (.aload_n 0, 1) := by decide +kernel
theorem dX7_count_126 : decode cX7_count 126 = .ok (.getfield 89, 3) := by decide +kernel
theorem dX7_count_129 : decode cX7_count 129 = .ok (.ireturn, 1) := by decide +kernel
theorem dX7_count_130 : decode cX7_count 130 = .ok (.aload_n 0, 1) := by decide +kernel
theorem dX7_count_131 : decode cX7_count 131 = .ok (.iconst 1, 1) := by decide +kernel
theorem dX7_count_132 : decode cX7_count 132 = .ok (.invokevirtual 178, 3) := by decide +kernel
theorem dX7_count_135 : decode cX7_count 135 = .ok (.ireturn, 1) := by decide +kernel
theorem dX7_tellPlayer_0 : decode cX7_tellPlayer 0 = .ok (.aload_n 0, 1) := by decide +kernel
theorem dX7_tellPlayer_1 : decode cX7_tellPlayer 1 = .ok (.iload_n 1, 1) := by decide +kernel
theorem dX7_tellPlayer_2 : decode cX7_tellPlayer 2 = .ok (.invokevirtual 92, 3) := by decide +kernel
theorem dX7_tellPlayer_5 : decode cX7_tellPlayer 5 = .ok (.astore_n 3, 1) := by decide +kernel
theorem dX7_tellPlayer_6 : decode cX7_tellPlayer 6 = .ok (.iload_n 2, 1) := by decide +kernel
theorem dX7_tellPlayer_7 : decode cX7_tellPlayer 7 = .ok (.tableswitch 103 0 8 #[49, 62, 68, 73, 78, 83, 88, 93, 98], 49) := by decide +kernel
theorem dX7_tellPlayer_56 : decode cX7_tellPlayer 56 = .ok (.aload_n 3, 1) := by decide +kernel
theorem dX7_tellPlayer_57 : decode cX7_tellPlayer 57 = .ok (.getfield 129, 3) := by decide +kernel
theorem dX7_tellPlayer_60 : decode cX7_tellPlayer 60 = .ok (.ifCond .eq 7, 3) := by decide +kernel
theorem dX7_tellPlayer_63 : decode cX7_tellPlayer 63 = .ok (.iconst 1, 1) := by decide +kernel
theorem dX7_tellPlayer_64 : decode cX7_tellPlayer 64 = .ok (.goto 4, 3) := by decide +kernel
theorem dX7_tellPlayer_67 : decode cX7_tellPlayer 67 = .ok (.iconst 0, 1) := by decide +kernel
theorem dX7_tellPlayer_68 : decode cX7_tellPlayer 68 = .ok (.ireturn, 1) := by decide +kernel
theorem dX7_tellPlayer_69 : decode cX7_tellPlayer 69 = .ok (.aload_n 0, 1) := by decide +kernel
theorem dX7_tellPlayer_70 : decode cX7_tellPlayer 70 = .ok (.iload_n 1, 1) := by decide +kernel
theorem dX7_tellPlayer_71 : decode cX7_tellPlayer 71 = .ok (.invokevirtual 110, 3) := by decide +kernel
theorem dX7_tellPlayer_74 : decode cX7_tellPlayer 74 = .ok (.ireturn, 1) := by decide +kernel
theorem dX7_tellPlayer_75 : decode cX7_tellPlayer 75 = .ok (.aload_n 3, 1) := by decide +kernel
theorem dX7_tellPlayer_76 : decode cX7_tellPlayer 76 = .ok (.getfield 113, 3) := by decide +kernel
theorem dX7_tellPlayer_79 : decode cX7_tellPlayer 79 = .ok (.ireturn, 1) := by decide +kernel
theorem dX7_tellPlayer_80 : decode cX7_tellPlayer 80 = .ok (.aload_n 3, 1) := by decide +kernel
theorem dX7_tellPlayer_81 : decode cX7_tellPlayer 81 = .ok (.getfield 137, 3) := by decide +kernel
theorem dX7_tellPlayer_84 : decode cX7_tellPlayer 84 = .ok (.ireturn, 1) := by decide +kernel
theorem dX7_tellPlayer_85 : decode cX7_tellPlayer 85 = .ok (.aload_n 3, 1) := by decide +kernel
theorem dX7_tellPlayer_86 : decode cX7_tellPlayer 86 = .ok (.getfield 180, 3) := by decide +kernel
theorem dX7_tellPlayer_89 : decode cX7_tellPlayer 89 = .ok (.ireturn, 1) := by decide +kernel
theorem dX7_tellPlayer_90 : decode cX7_tellPlayer 90 = .ok (.aload_n 3, 1) := by decide +kernel
theorem dX7_tellPlayer_91 : decode cX7_tellPlayer 91 = .ok (.getfield 183, 3) := by decide +kernel
theorem dX7_tellPlayer_94 : decode cX7_tellPlayer 94 = .ok (.ireturn, 1) := by decide +kernel
theorem dX7_tellPlayer_95 : decode cX7_tellPlayer 95 = .ok (.aload_n 3, 1) := by decide +kernel
theorem dX7_tellPlayer_96 : decode cX7_tellPlayer 96 = .ok (.getfield 186, 3) := by decide +kernel
theorem dX7_tellPlayer_99 : decode cX7_tellPlayer 99 = .ok (.ireturn, 1) := by decide +kernel
theorem dX7_tellPlayer_100 : decode cX7_tellPlayer 100 = .ok (.aload_n 3, 1) := by decide +kernel
theorem dX7_tellPlayer_101 : decode cX7_tellPlayer 101 = .ok (.getfield 187, 3) := by decide +kernel
theorem dX7_tellPlayer_104 : decode cX7_tellPlayer 104 = .ok (.ireturn, 1) := by decide +kernel
theorem dX7_tellPlayer_105 : decode cX7_tellPlayer 105 = .ok (.aload_n 3, 1) := by decide +kernel
theorem dX7_tellPlayer_106 : decode cX7_tellPlayer 106 = .ok (.getfield 188, 3) := by decide +kernel
theorem dX7_tellPlayer_109 : decode cX7_tellPlayer 109 = .ok (.ireturn, 1) := by decide +kernel
theorem dX7_tellPlayer_110 : decode cX7_tellPlayer 110 = .ok (.aload_n 0, 1) := by decide +kernel
theorem dX7_tellPlayer_111 : decode cX7_tellPlayer 111 = .ok (.iload_n 1, 1) := by decide +kernel
theorem dX7_tellPlayer_112 : decode cX7_tellPlayer 112 = .ok (.invokevirtual 191, 3) := by decide +kernel
theorem dX7_tellPlayer_115 : decode cX7_tellPlayer 115 = .ok (.ireturn, 1) := by decide +kernel
theorem dX7_tellMessage_0 : decode cX7_tellMessage 0 = .ok (.iload_n 1, 1) := by decide +kernel
theorem dX7_tellMessage_1 : decode cX7_tellMessage 1 = .ok (.istore_n 3, 1) := by decide +kernel
theorem dX7_tellMessage_2 : decode cX7_tellMessage 2 = .ok (.iconst 1, 1) := by decide +kernel
theorem dX7_tellMessage_3 : decode cX7_tellMessage 3 = .ok (.istore 4, 2) := by decide +kernel
theorem dX7_tellMessage_5 : decode cX7_tellMessage 5 = .ok (.iload 4, 2) := by decide +kernel
theorem dX7_tellMessage_7 : decode cX7_tellMessage 7 = .ok (.bipush 9, 2) := by decide +kernel
theorem dX7_tellMessage_9 : decode cX7_tellMessage 9 = .ok (.if_icmp .gt 64, 3) := by decide +kernel
theorem dX7_tellMessage_12 : decode cX7_tellMessage 12 = .ok (.aload_n 0, 1) := by decide +kernel
theorem dX7_tellMessage_13 : decode cX7_tellMessage 13 = .ok (.getfield 20, 3) := by decide +kernel
theorem dX7_tellMessage_16 : decode cX7_tellMessage 16 = .ok (.aload_n 0, 1) := by decide +kernel
theorem dX7_tellMessage_17 : decode cX7_tellMessage 17 = .ok (.getfield 64, 3) := by decide +kernel
theorem dX7_tellMessage_20 : decode cX7_tellMessage 20 = .ok (.iload 4, 2) := by decide +kernel
theorem dX7_tellMessage_22 : decode cX7_tellMessage 22 = .ok (.iadd, 1) := by decide +kernel
theorem dX7_tellMessage_23 : decode cX7_tellMessage 23 = .ok (.iload_n 3, 1) := by decide +kernel
theorem dX7_tellMessage_24 : decode cX7_tellMessage 24 = .ok (.aload_n 0, 1) := by decide +kernel
theorem dX7_tellMessage_25 : decode cX7_tellMessage 25 = .ok (.getfield 34, 3) := by decide +kernel
theorem dX7_tellMessage_28 : decode cX7_tellMessage 28 = .ok (.invokevirtual 194, 3) := by decide +kernel
theorem dX7_tellMessage_31 : decode cX7_tellMessage 31 = .ok (.ifCond .eq 19, 3) := by decide +kernel
theorem dX7_tellMessage_34 : decode cX7_tellMessage 34 = .ok (.aload_n 0, 1) := by decide +kernel
theorem dX7_tellMessage_35 : decode cX7_tellMessage 35 = .ok (.getfield 34, 3) := by decide +kernel
theorem dX7_tellMessage_38 : decode cX7_tellMessage 38 = .ok (.iload_n 2, 1) := by decide +kernel
theorem dX7_tellMessage_39 : decode cX7_tellMessage 39 = .ok (.aload_n 0, 1) := by decide +kernel
theorem dX7_tellMessage_40 : decode cX7_tellMessage 40 = .ok (.getfield 64, 3) := by decide +kernel
theorem dX7_tellMessage_43 : decode cX7_tellMessage 43 = .ok (.iload 4, 2) := by decide +kernel
theorem dX7_tellMessage_45 : decode cX7_tellMessage 45 = .ok (.iadd, 1) := by decide +kernel
theorem dX7_tellMessage_46 : decode cX7_tellMessage 46 = .ok (.invokevirtual 198, 3) := by decide +kernel
theorem dX7_tellMessage_49 : decode cX7_tellMessage 49 = .ok (.ireturn, 1) := by decide +kernel
theorem dX7_tellMessage_50 : decode cX7_tellMessage 50 = .ok (.iload_n 3, 1) := by decide +kernel
theorem dX7_tellMessage_51 : decode cX7_tellMessage 51 = .ok (.aload_n 0, 1) := by decide +kernel
theorem dX7_tellMessage_52 : decode cX7_tellMessage 52 = .ok (.getfield 20, 3) := by decide +kernel
theorem dX7_tellMessage_55 : decode cX7_tellMessage 55 = .ok (.aload_n 0, 1) := by decide +kernel
theorem dX7_tellMessage_56 : decode cX7_tellMessage 56 = .ok (.getfield 64, 3) := by decide +kernel
theorem dX7_tellMessage_59 : decode cX7_tellMessage 59 = .ok (.iload 4, 2) := by decide +kernel
theorem dX7_tellMessage_61 : decode cX7_tellMessage 61 = .ok (.iadd, 1) := by decide +kernel
theorem dX7_tellMessage_62 : decode cX7_tellMessage 62 = .ok (.invokevirtual 201, 3) := by decide +kernel
theorem dX7_tellMessage_65 : decode cX7_tellMessage 65 = .ok (.isub, 1) := by decide +kernel
theorem dX7_tellMessage_66 : decode cX7_tellMessage 66 = .ok (.istore_n 3, 1) := by decide +kernel
theorem dX7_tellMessage_67 : decode cX7_tellMessage 67 = .ok (.iinc 4 1, 3) := by decide +kernel
theorem dX7_tellMessage_70 : decode cX7_tellMessage 70 = .ok (.goto (-65), 3) := by decide +kernel
theorem dX7_tellMessage_73 : decode cX7_tellMessage 73 = .ok (.iconst 0, 1) := by decide +kernel
theorem dX7_tellMessage_74 : decode cX7_tellMessage 74 = .ok (.ireturn, 1) := by decide +kernel
theorem dX7_canPropose_0 : decode cX7_canPropose 0 = .ok (.aload_n 0, 1) := by decide +kernel
theorem dX7_canPropose_1 : decode cX7_canPropose 1 = .ok (.aload_n 0, 1) := by decide +kernel
theorem dX7_canPropose_2 : decode cX7_canPropose 2 = .ok (.getfield 68, 3) := by decide +kernel
theorem dX7_canPropose_5 : decode cX7_canPropose 5 = .ok (.invokevirtual 92, 3) := by decide +kernel
theorem dX7_canPropose_8 : decode cX7_canPropose 8 = .ok (.getfield 129, 3) := by decide +kernel
theorem dX7_canPropose_11 : decode cX7_canPropose 11 = .ok (.ifCond .eq 17, 3) := by decide +kernel
theorem dX7_canPropose_14 : decode cX7_canPropose 14 = .ok (.aload_n 0, 1) := by decide +kernel
theorem dX7_canPropose_15 : decode cX7_canPropose 15 = .ok (.getfield 27, 3) := by decide +kernel
theorem dX7_canPropose_18 : decode cX7_canPropose 18 = .ok (.getfield 204, 3) := by decide +kernel
theorem dX7_canPropose_21 : decode cX7_canPropose 21 = .ok (.ifCond .eq 7, 3) := by decide +kernel
theorem dX7_canPropose_24 : decode cX7_canPropose 24 = .ok (.iconst 1, 1) := by decide +kernel
theorem dX7_canPropose_25 : decode cX7_canPropose 25 = .ok (.goto 4, 3) := by decide +kernel
theorem dX7_canPropose_28 : decode cX7_canPropose 28 = .ok (.iconst 0, 1) := by decide +kernel
theorem dX7_canPropose_29 : decode cX7_canPropose 29 = .ok (.ireturn, 1) := by decide +kernel
theorem dX7_startProposal_0 : decode cX7_startProposal 0 = .ok (.aload_n 0, 1) := by decide +kernel
theorem dX7_startProposal_1 : decode cX7_startProposal 1 = .ok (.getfield 27, 3) := by decide +kernel
theorem dX7_startProposal_4 : decode cX7_startProposal 4 = .ok (.iload_n 1, 1) := by decide +kernel
theorem dX7_startProposal_5 : decode cX7_startProposal 5 = .ok (.aload_n 0, 1) := by decide +kernel
theorem dX7_startProposal_6 : decode cX7_startProposal 6 = .ok (.aload_n 0, 1) := by decide +kernel
theorem dX7_startProposal_7 : decode cX7_startProposal 7 = .ok (.getfield 68, 3) := by decide +kernel
theorem dX7_startProposal_10 : decode cX7_startProposal 10 = .ok (.invokevirtual 110, 3) := by decide +kernel
theorem dX7_startProposal_13 : decode cX7_startProposal 13 = .ok (.iload_n 2, 1) := by decide +kernel
theorem dX7_startProposal_14 : decode cX7_startProposal 14 = .ok (.iadd, 1) := by decide +kernel
theorem dX7_startProposal_15 : decode cX7_startProposal 15 = .ok (.aload_n 0, 1) := by decide +kernel
theorem dX7_startProposal_16 : decode cX7_startProposal 16 = .ok (.getfield 64, 3) := by decide +kernel
theorem dX7_startProposal_19 : decode cX7_startProposal 19 = .ok (.aload_n 0, 1) := by decide +kernel
theorem dX7_startProposal_20 : decode cX7_startProposal 20 = .ok (.getfield 52, 3) := by decide +kernel
theorem dX7_startProposal_23 : decode cX7_startProposal 23 = .ok (.getfield 207, 3) := by decide +kernel
theorem dX7_startProposal_26 : decode cX7_startProposal 26 = .ok (.iadd, 1) := by decide +kernel
theorem dX7_startProposal_27 : decode cX7_startProposal 27 = .ok (.aload_n 0, 1) := by decide +kernel
theorem dX7_startProposal_28 : decode cX7_startProposal 28 = .ok (.getfield 68, 3) := by decide +kernel
theorem dX7_startProposal_31 : decode cX7_startProposal 31 = .ok (.invokevirtual 210, 3) := by decide +kernel
theorem dX7_startProposal_34 : decode cX7_startProposal 34 = .ok (.aload_n 0, 1) := by decide +kernel
theorem dX7_startProposal_35 : decode cX7_startProposal 35 = .ok (.dup, 1) := by decide +kernel
theorem dX7_startProposal_36 : decode cX7_startProposal 36 = .ok (.getfield 77, 3) := by decide +kernel
theorem dX7_startProposal_39 : decode cX7_startProposal 39 = .ok (.iconst 1, 1) := by decide +kernel
theorem dX7_startProposal_40 : decode cX7_startProposal 40 = .ok (.iadd, 1) := by decide +kernel
theorem dX7_startProposal_41 : decode cX7_startProposal 41 = .ok (.putfield 77, 3) := by decide +kernel
theorem dX7_startProposal_44 : decode cX7_startProposal 44 = .ok (.aload_n 0, 1) := by decide +kernel
theorem dX7_startProposal_45 : decode cX7_startProposal 45 = .ok (.aload_n 0, 1) := by decide +kernel
theorem dX7_startProposal_46 : decode cX7_startProposal 46 = .ok (.getfield 68, 3) := by decide +kernel
theorem dX7_startProposal_49 : decode cX7_startProposal 49 = .ok (.invokevirtual 92, 3) := by decide +kernel
theorem dX7_startProposal_52 : decode cX7_startProposal 52 = .ok (.aload_n 0, 1) := by decide +kernel
theorem dX7_startProposal_53 : decode cX7_startProposal 53 = .ok (.getfield 77, 3) := by decide +kernel
theorem dX7_startProposal_56 : decode cX7_startProposal 56 = .ok (.iconst 1, 1) := by decide +kernel
theorem dX7_startProposal_57 : decode cX7_startProposal 57 = .ok (.isub, 1) := by decide +kernel
theorem dX7_startProposal_58 : decode cX7_startProposal 58 = .ok (.iload_n 1, 1) := by decide +kernel
theorem dX7_startProposal_59 : decode cX7_startProposal 59 = .ok (.aload_n 0, 1) := by decide +kernel
theorem dX7_startProposal_60 : decode cX7_startProposal 60 = .ok (.getfield 27, 3) := by decide +kernel
theorem dX7_startProposal_63 : decode cX7_startProposal 63 = .ok (.getfield 214, 3) := by decide +kernel
theorem dX7_startProposal_66 : decode cX7_startProposal 66 = .ok (.iconst 1, 1) := by decide +kernel
theorem dX7_startProposal_67 : decode cX7_startProposal 67 = .ok (.invokevirtual 217, 3) := by decide +kernel
theorem dX7_startProposal_70 : decode cX7_startProposal 70 = .ok (.aload_n 0, 1) := by decide +kernel
theorem dX7_startProposal_71 : decode cX7_startProposal 71 = .ok (.iconst 2, 1) := by decide +kernel
theorem dX7_startProposal_72 : decode cX7_startProposal 72 = .ok (.invokevirtual 220, 3) := by decide +kernel
theorem dX7_startProposal_75 : decode cX7_startProposal 75 = .ok (.aload_n 0, 1) := by decide +kernel
theorem dX7_startProposal_76 : decode cX7_startProposal 76 = .ok (.invokevirtual 223, 3) := by decide +kernel
theorem dX7_startProposal_79 : decode cX7_startProposal 79 = .ok (.return_, 1) := by decide +kernel
theorem dX7_sendAsk_0 : decode cX7_sendAsk 0 = .ok (.aload_n 0, 1) := by decide +kernel
theorem dX7_sendAsk_1 : decode cX7_sendAsk 1 = .ok (.iconst 0, 1) := by decide +kernel
theorem dX7_sendAsk_2 : decode cX7_sendAsk 2 = .ok (.iload_n 1, 1) := by decide +kernel
theorem dX7_sendAsk_3 : decode cX7_sendAsk 3 = .ok (.aload_n 0, 1) := by decide +kernel
theorem dX7_sendAsk_4 : decode cX7_sendAsk 4 = .ok (.getfield 68, 3) := by decide +kernel
theorem dX7_sendAsk_7 : decode cX7_sendAsk 7 = .ok (.iconst (-1), 1) := by decide +kernel
theorem dX7_sendAsk_8 : decode cX7_sendAsk 8 = .ok (.aload_n 0, 1) := by decide +kernel
theorem dX7_sendAsk_9 : decode cX7_sendAsk 9 = .ok (.iload_n 1, 1) := by decide +kernel
theorem dX7_sendAsk_10 : decode cX7_sendAsk 10 = .ok (.invokevirtual 110, 3) := by decide +kernel
theorem dX7_sendAsk_13 : decode cX7_sendAsk 13 = .ok (.iconst 0, 1) := by decide +kernel
theorem dX7_sendAsk_14 : decode cX7_sendAsk 14 = .ok (.invokevirtual 226, 3) := by decide +kernel
theorem dX7_sendAsk_17 : decode cX7_sendAsk 17 = .ok (.ireturn, 1) := by decide +kernel
theorem dX7_makeConductor_0 : decode cX7_makeConductor 0 = .ok (.aload_n 0, 1) := by decide +kernel
theorem dX7_makeConductor_1 : decode cX7_makeConductor 1 = .ok (.iload_n 1, 1) := by decide +kernel
theorem dX7_makeConductor_2 : decode cX7_makeConductor 2 = .ok (.putfield 68, 3) := by decide +kernel
theorem dX7_makeConductor_5 : decode cX7_makeConductor 5 = .ok (.iconst 0, 1) := by decide +kernel
theorem dX7_makeConductor_6 : decode cX7_makeConductor 6 = .ok (.istore_n 2, 1) := by decide +kernel
theorem dX7_makeConductor_7 : decode cX7_makeConductor 7 = .ok (.iload_n 2, 1) := by decide +kernel
theorem dX7_makeConductor_8 : decode cX7_makeConductor 8 = .ok (.aload_n 0, 1) := by decide +kernel
theorem dX7_makeConductor_9 : decode cX7_makeConductor 9 = .ok (.getfield 11, 3) := by decide +kernel
theorem dX7_makeConductor_12 : decode cX7_makeConductor 12 = .ok (.arraylength, 1) := by decide +kernel
theorem dX7_makeConductor_13 : decode cX7_makeConductor 13 = .ok (.if_icmp .ge 18, 3) := by decide +kernel
theorem dX7_makeConductor_16 : decode cX7_makeConductor 16 = .ok (.aload_n 0, 1) := by decide +kernel
theorem dX7_makeConductor_17 : decode cX7_makeConductor 17 = .ok (.iload_n 2, 1) := by decide +kernel
theorem dX7_makeConductor_18 : decode cX7_makeConductor 18 = .ok (.invokevirtual 92, 3) := by decide +kernel
theorem dX7_makeConductor_21 : decode cX7_makeConductor 21 = .ok (.iconst 0, 1) := by decide +kernel
theorem dX7_makeConductor_22 : decode cX7_makeConductor 22 = .ok (.putfield 113, 3) := by decide +kernel
theorem dX7_makeConductor_25 : decode cX7_makeConductor 25 = .ok (.iinc 2 1, 3) := by decide +kernel
theorem dX7_makeConductor_28 : decode cX7_makeConductor 28 = .ok (.goto (-21), 3) := by decide +kernel
theorem dX7_makeConductor_31 : decode cX7_makeConductor 31 = .ok (.return_, 1) := by decide +kernel
theorem dX7_tick_0 : decode cX7_tick 0 = .ok (.aload_n 0, 1) := by decide +kernel
theorem dX7_tick_1 : decode cX7_tick 1 = .ok (.dup, 1) := by decide +kernel
theorem dX7_tick_2 : decode cX7_tick 2 = .ok (.getfield 64, 3) := by decide +kernel
theorem dX7_tick_5 : decode cX7_tick 5 = .ok (.iconst 1, 1) := by decide +kernel
theorem dX7_tick_6 : decode cX7_tick 6 = .ok (.iadd, 1) := by decide +kernel
theorem dX7_tick_7 : decode cX7_tick 7 = .ok (.putfield 64, 3) := by decide +kernel
theorem dX7_tick_10 : decode cX7_tick 10 = .ok (.aload_n 0, 1) := by decide +kernel
theorem dX7_tick_11 : decode cX7_tick 11 = .ok (.getfield 20, 3) := by decide +kernel
theorem dX7_tick_14 : decode cX7_tick 14 = .ok (.aload_n 0, 1) := by decide +kernel
theorem dX7_tick_15 : decode cX7_tick 15 = .ok (.getfield 64, 3) := by decide +kernel
theorem dX7_tick_18 : decode cX7_tick 18 = .ok (.invokevirtual 201, 3) := by decide +kernel
theorem dX7_tick_21 : decode cX7_tick 21 = .ok (.istore_n 1, 1) := by decide +kernel
theorem dX7_tick_22 : decode cX7_tick 22 = .ok (.iconst 0, 1) := by decide +kernel
theorem dX7_tick_23 : decode cX7_tick 23 = .ok (.istore_n 2, 1) := by decide +kernel
theorem dX7_tick_24 : decode cX7_tick 24 = .ok (.iload_n 2, 1) := by decide +kernel
theorem dX7_tick_25 : decode cX7_tick 25 = .ok (.iload_n 1, 1) := by decide +kernel
theorem dX7_tick_26 : decode cX7_tick 26 = .ok (.if_icmp .ge 36, 3) := by decide +kernel
theorem dX7_tick_29 : decode cX7_tick 29 = .ok (.aload_n 0, 1) := by decide +kernel
theorem dX7_tick_30 : decode cX7_tick 30 = .ok (.getfield 20, 3) := by decide +kernel
theorem dX7_tick_33 : decode cX7_tick 33 = .ok (.aload_n 0, 1) := by decide +kernel
theorem dX7_tick_34 : decode cX7_tick 34 = .ok (.getfield 64, 3) := by decide +kernel
theorem dX7_tick_37 : decode cX7_tick 37 = .ok (.iload_n 2, 1) := by decide +kernel
theorem dX7_tick_38 : decode cX7_tick 38 = .ok (.aload_n 0, 1) := by decide +kernel
theorem dX7_tick_39 : decode cX7_tick 39 = .ok (.getfield 34, 3) := by decide +kernel
theorem dX7_tick_42 : decode cX7_tick 42 = .ok (.invokevirtual 194, 3) := by decide +kernel
theorem dX7_tick_45 : decode cX7_tick 45 = .ok (.ifCond .eq 11, 3) := by decide +kernel
theorem dX7_tick_48 : decode cX7_tick 48 = .ok (.aload_n 0, 1) := by decide +kernel
theorem dX7_tick_49 : decode cX7_tick 49 = .ok (.invokevirtual 230, 3) := by decide +kernel
theorem dX7_tick_52 : decode cX7_tick 52 = .ok (.aload_n 0, 1) := by decide +kernel
theorem dX7_tick_53 : decode cX7_tick 53 = .ok (.invokevirtual 223, 3) := by decide +kernel
theorem dX7_tick_56 : decode cX7_tick 56 = .ok (.iinc 2 1, 3) := by decide +kernel
theorem dX7_tick_59 : decode cX7_tick 59 = .ok (.goto (-35), 3) := by decide +kernel
theorem dX7_tick_62 : decode cX7_tick 62 = .ok (.aload_n 0, 1) := by decide +kernel
theorem dX7_tick_63 : decode cX7_tick 63 = .ok (.getfield 20, 3) := by decide +kernel
theorem dX7_tick_66 : decode cX7_tick 66 = .ok (.aload_n 0, 1) := by decide +kernel
theorem dX7_tick_67 : decode cX7_tick 67 = .ok (.getfield 64, 3) := by decide +kernel
theorem dX7_tick_70 : decode cX7_tick 70 = .ok (.invokevirtual 233, 3) := by decide +kernel
theorem dX7_tick_73 : decode cX7_tick 73 = .ok (.aload_n 0, 1) := by decide +kernel
theorem dX7_tick_74 : decode cX7_tick 74 = .ok (.getfield 27, 3) := by decide +kernel
theorem dX7_tick_77 : decode cX7_tick 77 = .ok (.getfield 204, 3) := by decide +kernel
theorem dX7_tick_80 : decode cX7_tick 80 = .ok (.ifCond .ne 21, 3) := by decide +kernel
theorem dX7_tick_83 : decode cX7_tick 83 = .ok (.aload_n 0, 1) := by decide +kernel
theorem dX7_tick_84 : decode cX7_tick 84 = .ok (.getfield 27, 3) := by decide +kernel
theorem dX7_tick_87 : decode cX7_tick 87 = .ok (.getfield 236, 3) := by decide +kernel
theorem dX7_tick_90 : decode cX7_tick 90 = .ok (.aload_n 0, 1) := by decide +kernel
theorem dX7_tick_91 : decode cX7_tick 91 = .ok (.getfield 64, 3) := by decide +kernel
theorem dX7_tick_94 : decode cX7_tick 94 = .ok (.if_icmp .ne 7, 3) := by decide +kernel
theorem dX7_tick_97 : decode cX7_tick 97 = .ok (.aload_n 0, 1) := by decide +kernel
theorem dX7_tick_98 : decode cX7_tick 98 = .ok (.invokevirtual 239, 3) := by decide +kernel
theorem dX7_tick_101 : decode cX7_tick 101 = .ok (.iconst 0, 1) := by decide +kernel
theorem dX7_tick_102 : decode cX7_tick 102 = .ok (.istore_n 2, 1) := by decide +kernel
theorem dX7_tick_103 : decode cX7_tick 103 = .ok (.iload_n 2, 1) := by decide +kernel
theorem dX7_tick_104 : decode cX7_tick 104 = .ok (.aload_n 0, 1) := by decide +kernel
theorem dX7_tick_105 : decode cX7_tick 105 = .ok (.getfield 52, 3) := by decide +kernel
theorem dX7_tick_108 : decode cX7_tick 108 = .ok (.getfield 127, 3) := by decide +kernel
theorem dX7_tick_111 : decode cX7_tick 111 = .ok (.if_icmp .ge 14, 3) := by decide +kernel
theorem dX7_tick_114 : decode cX7_tick 114 = .ok (.aload_n 0, 1) := by decide +kernel
theorem dX7_tick_115 : decode cX7_tick 115 = .ok (.iload_n 2, 1) := by decide +kernel
theorem dX7_tick_116 : decode cX7_tick 116 = .ok (.invokevirtual 242, 3) := by decide +kernel
theorem dX7_tick_119 : decode cX7_tick 119 = .ok (.iinc 2 1, 3) := by decide +kernel
theorem dX7_tick_122 : decode cX7_tick 122 = .ok (.goto (-19), 3) := by decide +kernel
theorem dX7_tick_125 : decode cX7_tick 125 = .ok (.return_, 1) := by decide +kernel
theorem dX7_runOn_0 : decode cX7_runOn 0 = .ok (.aload_n 0, 1) := by decide +kernel
theorem dX7_runOn_1 : decode cX7_runOn 1 = .ok (.getfield 89, 3) := by decide +kernel
theorem dX7_runOn_4 : decode cX7_runOn 4 = .ok (.istore_n 2, 1) := by decide +kernel
theorem dX7_runOn_5 : decode cX7_runOn 5 = .ok (.iconst 0, 1) := by decide +kernel
theorem dX7_runOn_6 : decode cX7_runOn 6 = .ok (.istore_n 3, 1) := by decide +kernel
theorem dX7_runOn_7 : decode cX7_runOn 7 = .ok (.iload_n 3, 1) := by decide +kernel
theorem dX7_runOn_8 : decode cX7_runOn 8 = .ok (.sipush 400, 3) := by decide +kernel
theorem dX7_runOn_11 : decode cX7_runOn 11 = .ok (.if_icmp .ge 45, 3) := by decide +kernel
theorem dX7_runOn_14 : decode cX7_runOn 14 = .ok (.aload_n 0, 1) := by decide +kernel
theorem dX7_runOn_15 : decode cX7_runOn 15 = .ok (.invokevirtual 245, 3) := by decide +kernel
theorem dX7_runOn_18 : decode cX7_runOn 18 = .ok (.ifCond .eq 38, 3) := by decide +kernel
theorem dX7_runOn_21 : decode cX7_runOn 21 = .ok (.iload_n 1, 1) := by decide +kernel
theorem dX7_runOn_22 : decode cX7_runOn 22 = .ok (.ifCond .eq 24, 3) := by decide +kernel
theorem dX7_runOn_25 : decode cX7_runOn 25 = .ok (.aload_n 0, 1) := by decide +kernel
theorem dX7_runOn_26 : decode cX7_runOn 26 = .ok (.getfield 89, 3) := by decide +kernel
theorem dX7_runOn_29 : decode cX7_runOn 29 = .ok (.iload_n 2, 1) := by decide +kernel
theorem dX7_runOn_30 : decode cX7_runOn 30 = .ok (.if_icmp .ne 14, 3) := by decide +kernel
theorem dX7_runOn_33 : decode cX7_runOn 33 = .ok (.aload_n 0, 1) := by decide +kernel
theorem dX7_runOn_34 : decode cX7_runOn 34 = .ok (.getfield 27, 3) := by decide +kernel
theorem dX7_runOn_37 : decode cX7_runOn 37 = .ok (.getfield 204, 3) := by decide +kernel
theorem dX7_runOn_40 : decode cX7_runOn 40 = .ok (.iconst 2, 1) := by decide +kernel
theorem dX7_runOn_41 : decode cX7_runOn 41 = .ok (.if_icmp .ne 5, 3) := by decide +kernel
theorem dX7_runOn_44 : decode cX7_runOn 44 = .ok (.iload_n 3, 1) := by decide +kernel
theorem dX7_runOn_45 : decode cX7_runOn 45 = .ok (.ireturn, 1) := by decide +kernel
theorem dX7_runOn_46 : decode cX7_runOn 46 = .ok (.aload_n 0, 1) := by decide +kernel
theorem dX7_runOn_47 : decode cX7_runOn 47 = .ok (.invokevirtual 249, 3) := by decide +kernel
theorem dX7_runOn_50 : decode cX7_runOn 50 = .ok (.iinc 3 1, 3) := by decide +kernel
theorem dX7_runOn_53 : decode cX7_runOn 53 = .ok (.goto (-46), 3) := by decide +kernel
theorem dX7_runOn_56 : decode cX7_runOn 56 = .ok (.iload_n 3, 1) := by decide +kernel
theorem dX7_runOn_57 : decode cX7_runOn 57 = .ok (.ireturn, 1) := by decide +kernel
theorem dX7_isBusy_0 : decode cX7_isBusy 0 = .ok (.aload_n 0, 1) := by decide +kernel
theorem dX7_isBusy_1 : decode cX7_isBusy 1 = .ok (.getfield 20, 3) := by decide +kernel
theorem dX7_isBusy_4 : decode cX7_isBusy 4 = .ok (.getfield 172, 3) := by decide +kernel
theorem dX7_isBusy_7 : decode cX7_isBusy 7 = .ok (.ifCond .gt 13, 3) := by decide +kernel
theorem dX7_isBusy_10 : decode cX7_isBusy 10 = .ok (.aload_n 0, 1) := by decide +kernel
theorem dX7_isBusy_11 : decode cX7_isBusy 11 = .ok (.getfield 27, 3) := by decide +kernel
theorem dX7_isBusy_14 : decode cX7_isBusy 14 = .ok (.getfield 204, 3) := by decide +kernel
theorem dX7_isBusy_17 : decode cX7_isBusy 17 = .ok (.ifCond .ne 5, 3) := by decide +kernel
theorem dX7_isBusy_20 : decode cX7_isBusy 20 = .ok (.iconst 1, 1) := by decide +kernel
theorem dX7_isBusy_21 : decode cX7_isBusy 21 = .ok (.ireturn, 1) := by decide +kernel
theorem dX7_isBusy_22 : decode cX7_isBusy 22 = .ok (.iconst 0, 1) := by decide +kernel
theorem dX7_isBusy_23 : decode cX7_isBusy 23 = .ok (.istore_n 1, 1) := by decide +kernel
theorem dX7_isBusy_24 : decode cX7_isBusy 24 = .ok (.iload_n 1, 1) := by decide +kernel
theorem dX7_isBusy_25 : decode cX7_isBusy 25 = .ok (.aload_n 0, 1) := by decide +kernel
theorem dX7_isBusy_26 : decode cX7_isBusy 26 = .ok (.getfield 52, 3) := by decide +kernel
theorem dX7_isBusy_29 : decode cX7_isBusy 29 = .ok (.getfield 127, 3) := by decide +kernel
theorem dX7_isBusy_32 : decode cX7_isBusy 32 = .ok (.if_icmp .ge 34, 3) := by decide +kernel
theorem dX7_isBusy_35 : decode cX7_isBusy 35 = .ok (.aload_n 0, 1) := by decide +kernel
theorem dX7_isBusy_36 : decode cX7_isBusy 36 = .ok (.iload_n 1, 1) := by decide +kernel
theorem dX7_isBusy_37 : decode cX7_isBusy 37 = .ok (.invokevirtual 92, 3) := by decide +kernel
theorem dX7_isBusy_40 : decode cX7_isBusy 40 = .ok (.getfield 129, 3) := by decide +kernel
theorem dX7_isBusy_43 : decode cX7_isBusy 43 = .ok (.ifCond .eq 17, 3) := by decide +kernel
theorem dX7_isBusy_46 : decode cX7_isBusy 46 = .ok (.aload_n 0, 1) := by decide +kernel
theorem dX7_isBusy_47 : decode cX7_isBusy 47 = .ok (.iload_n 1, 1) := by decide +kernel
theorem dX7_isBusy_48 : decode cX7_isBusy 48 = .ok (.invokevirtual 92, 3) := by decide +kernel
theorem dX7_isBusy_51 : decode cX7_isBusy 51 = .ok (.getfield 180, 3) := by decide +kernel
theorem dX7_isBusy_54 : decode cX7_isBusy 54 = .ok (.iconst 2, 1) := by decide +kernel
theorem dX7_isBusy_55 : decode cX7_isBusy 55 = .ok (.if_icmp .ne 5, 3) := by decide +kernel
theorem dX7_isBusy_58 : decode cX7_isBusy 58 = .ok (.iconst 1, 1) := by decide +kernel
theorem dX7_isBusy_59 : decode cX7_isBusy 59 = .ok (.ireturn, 1) := by decide +kernel
theorem dX7_isBusy_60 : decode cX7_isBusy 60 = .ok (.iinc 1 1, 3) := by decide +kernel
theorem dX7_isBusy_63 : decode cX7_isBusy 63 = .ok (.goto (-39), 3) := by decide +kernel
theorem dX7_isBusy_66 : decode cX7_isBusy 66 = .ok (.iconst 0, 1) := by decide +kernel
theorem dX7_isBusy_67 : decode cX7_isBusy 67 = .ok (.ireturn, 1) := by decide +kernel
theorem dX7_receive_0 : decode cX7_receive 0 = .ok (.aload_n 0, 1) := by decide +kernel
theorem dX7_receive_1 : decode cX7_receive 1 = .ok (.getfield 34, 3) := by decide +kernel
theorem dX7_receive_4 : decode cX7_receive 4 = .ok (.astore_n 1, 1) := by decide +kernel
theorem dX7_receive_5 : decode cX7_receive 5 = .ok (.aload_n 0, 1) := by decide +kernel
theorem dX7_receive_6 : decode cX7_receive 6 = .ok (.aload_n 1, 1) := by decide +kernel
theorem dX7_receive_7 : decode cX7_receive 7 = .ok (.getfield 252, 3) := by decide +kernel
theorem dX7_receive_10 : decode cX7_receive 10 = .ok (.invokevirtual 92, 3) := by decide +kernel
theorem dX7_receive_13 : decode cX7_receive 13 = .ok (.astore_n 2, 1) := by decide +kernel
theorem dX7_receive_14 : decode cX7_receive 14 = .ok (.aload_n 2, 1) := by decide +kernel
theorem dX7_receive_15 : decode cX7_receive 15 = .ok (.getfield 129, 3) := by decide +kernel
theorem dX7_receive_18 : decode cX7_receive 18 = .ok (.ifCond .ne 14, 3) := by decide +kernel
theorem dX7_receive_21 : decode cX7_receive 21 = .ok (.aload_n 0, 1) := by decide +kernel
theorem dX7_receive_22 : decode cX7_receive 22 = .ok (.dup, 1) := by decide +kernel
theorem dX7_receive_23 : decode cX7_receive 23 = .ok (.getfield 74, 3) := by decide +kernel
theorem dX7_receive_26 : decode cX7_receive 26 = .ok (.iconst 1, 1) := by decide +kernel
theorem dX7_receive_27 : decode cX7_receive 27 = .ok (.iadd, 1) := by decide +kernel
theorem dX7_receive_28 : decode cX7_receive 28 = .ok (.putfield 74, 3) := by decide +kernel
theorem dX7_receive_31 : decode cX7_receive 31 = .ok (.return_, 1) := by decide +kernel
theorem dX7_receive_32 : decode cX7_receive 32 = .ok (.aload_n 1, 1) := by decide +kernel
theorem dX7_receive_33 : decode cX7_receive 33 = .ok (.getfield 255, 3) := by decide +kernel
theorem dX7_receive_36 : decode cX7_receive 36 = .ok (.tableswitch 209 0 4 #[36, 66, 108, 148, 189], 36) := by decide +kernel
theorem dX7_receive_72 : decode cX7_receive 72 = .ok (.aload_n 0, 1) := by decide +kernel
theorem dX7_receive_73 : decode cX7_receive 73 = .ok (.iconst 1, 1) := by decide +kernel
theorem dX7_receive_74 : decode cX7_receive 74 = .ok (.aload_n 1, 1) := by decide +kernel
theorem dX7_receive_75 : decode cX7_receive 75 = .ok (.getfield 252, 3) := by decide +kernel
theorem dX7_receive_78 : decode cX7_receive 78 = .ok (.aload_n 1, 1) := by decide +kernel
theorem dX7_receive_79 : decode cX7_receive 79 = .ok (.getfield 258, 3) := by decide +kernel
theorem dX7_receive_82 : decode cX7_receive 82 = .ok (.iconst (-1), 1) := by decide +kernel
theorem dX7_receive_83 : decode cX7_receive 83 = .ok (.aload_n 1, 1) := by decide +kernel
theorem dX7_receive_84 : decode cX7_receive 84 = .ok (.getfield 261, 3) := by decide +kernel
theorem dX7_receive_87 : decode cX7_receive 87 = .ok (.aload_n 0, 1) := by decide +kernel
theorem dX7_receive_88 : decode cX7_receive 88 = .ok (.aload_n 1, 1) := by decide +kernel
theorem dX7_receive_89 : decode cX7_receive 89 = .ok (.getfield 252, 3) := by decide +kernel
theorem dX7_receive_92 : decode cX7_receive 92 = .ok (.invokevirtual 110, 3) := by decide +kernel
theorem dX7_receive_95 : decode cX7_receive 95 = .ok (.invokevirtual 226, 3) := by decide +kernel
theorem dX7_receive_98 : decode cX7_receive 98 = .ok (.pop, 1) := by decide +kernel
theorem dX7_receive_99 : decode cX7_receive 99 = .ok (.goto 169, 3) := by decide +kernel
theorem dX7_receive_102 : decode cX7_receive 102 = .ok (.aload_n 1, 1) := by decide +kernel
theorem dX7_receive_103 : decode cX7_receive 103 = .ok (.getfield 252, 3) := by decide +kernel
theorem dX7_receive_106 : decode cX7_receive 106 = .ok (.aload_n 0, 1) := by decide +kernel
theorem dX7_receive_107 : decode cX7_receive 107 = .ok (.getfield 68, 3) := by decide +kernel
theorem dX7_receive_110 : decode cX7_receive 110 = .ok (.if_icmp .eq 158, 3) := by decide +kernel
theorem dX7_receive_113 : decode cX7_receive 113 = .ok (.aload_n 0, 1) := by decide +kernel
theorem dX7_receive_114 : decode cX7_receive 114 = .ok (.aload_n 1, 1) := by decide +kernel
theorem dX7_receive_115 : decode cX7_receive 115 = .ok (.getfield 252, 3) := by decide +kernel
theorem dX7_receive_118 : decode cX7_receive 118 = .ok (.invokevirtual 110, 3) := by decide +kernel
theorem dX7_receive_121 : decode cX7_receive 121 = .ok (.istore_n 3, 1) := by decide +kernel
theorem dX7_receive_122 : decode cX7_receive 122 = .ok (.aload_n 2, 1) := by decide +kernel
theorem dX7_receive_123 : decode cX7_receive 123 = .ok (.aload_n 1, 1) := by decide +kernel
theorem dX7_receive_124 : decode cX7_receive 124 = .ok (.getfield 264, 3) := by decide +kernel
theorem dX7_receive_127 : decode cX7_receive 127 = .ok (.iload_n 3, 1) := by decide +kernel
theorem dX7_receive_128 : decode cX7_receive 128 = .ok (.aload_n 1, 1) := by decide +kernel
theorem dX7_receive_129 : decode cX7_receive 129 = .ok (.getfield 261, 3) := by decide +kernel
theorem dX7_receive_132 : decode cX7_receive 132 = .ok (.isub, 1) := by decide +kernel
theorem dX7_receive_133 : decode cX7_receive 133 = .ok (.iconst 2, 1) := by decide +kernel
theorem dX7_receive_134 : decode cX7_receive 134 = .ok (.idiv, 1) := by decide +kernel
theorem dX7_receive_135 : decode cX7_receive 135 = .ok (.iadd, 1) := by decide +kernel
theorem dX7_receive_136 : decode cX7_receive 136 = .ok (.iload_n 3, 1) := by decide +kernel
theorem dX7_receive_137 : decode cX7_receive 137 = .ok (.isub, 1) := by decide +kernel
theorem dX7_receive_138 : decode cX7_receive 138 = .ok (.putfield 113, 3) := by decide +kernel
theorem dX7_receive_141 : decode cX7_receive 141 = .ok (.goto 127, 3) := by decide +kernel
theorem dX7_receive_144 : decode cX7_receive 144 = .ok (.aload_n 2, 1) := by decide +kernel
theorem dX7_receive_145 : decode cX7_receive 145 = .ok (.aload_n 1, 1) := by decide +kernel
theorem dX7_receive_146 : decode cX7_receive 146 = .ok (.getfield 267, 3) := by decide +kernel
theorem dX7_receive_149 : decode cX7_receive 149 = .ok (.aload_n 1, 1) := by decide +kernel
theorem dX7_receive_150 : decode cX7_receive 150 = .ok (.getfield 261, 3) := by decide +kernel
theorem dX7_receive_153 : decode cX7_receive 153 = .ok (.aload_n 1, 1) := by decide +kernel
theorem dX7_receive_154 : decode cX7_receive 154 = .ok (.getfield 264, 3) := by decide +kernel
theorem dX7_receive_157 : decode cX7_receive 157 = .ok (.iconst 1, 1) := by decide +kernel
theorem dX7_receive_158 : decode cX7_receive 158 = .ok (.invokevirtual 217, 3) := by decide +kernel
theorem dX7_receive_161 : decode cX7_receive 161 = .ok (.aload_n 0, 1) := by decide +kernel
theorem dX7_receive_162 : decode cX7_receive 162 = .ok (.iconst 3, 1) := by decide +kernel
theorem dX7_receive_163 : decode cX7_receive 163 = .ok (.aload_n 1, 1) := by decide +kernel
theorem dX7_receive_164 : decode cX7_receive 164 = .ok (.getfield 252, 3) := by decide +kernel
theorem dX7_receive_167 : decode cX7_receive 167 = .ok (.aload_n 1, 1) := by decide +kernel
theorem dX7_receive_168 : decode cX7_receive 168 = .ok (.getfield 258, 3) := by decide +kernel
theorem dX7_receive_171 : decode cX7_receive 171 = .ok (.aload_n 1, 1) := by decide +kernel
theorem dX7_receive_172 : decode cX7_receive 172 = .ok (.getfield 267, 3) := by decide +kernel
theorem dX7_receive_175 : decode cX7_receive 175 = .ok (.iconst 0, 1) := by decide +kernel
theorem dX7_receive_176 : decode cX7_receive 176 = .ok (.iconst 0, 1) := by decide +kernel
theorem dX7_receive_177 : decode cX7_receive 177 = .ok (.invokevirtual 226, 3) := by decide +kernel
theorem dX7_receive_180 : decode cX7_receive 180 = .ok (.pop, 1) := by decide +kernel
theorem dX7_receive_181 : decode cX7_receive 181 = .ok (.goto 87, 3) := by decide +kernel
theorem dX7_receive_184 : decode cX7_receive 184 = .ok (.aload_n 0, 1) := by decide +kernel
theorem dX7_receive_185 : decode cX7_receive 185 = .ok (.aload_n 1, 1) := by decide +kernel
theorem dX7_receive_186 : decode cX7_receive 186 = .ok (.getfield 267, 3) := by decide +kernel
theorem dX7_receive_189 : decode cX7_receive 189 = .ok (.invokevirtual 270, 3) := by decide +kernel
theorem dX7_receive_192 : decode cX7_receive 192 = .ok (.ifCond .eq 76, 3) := by decide +kernel
theorem dX7_receive_195 : decode cX7_receive 195 = .ok (.aload_n 1, 1) := by decide +kernel
theorem dX7_receive_196 : decode cX7_receive 196 = .ok (.getfield 252, 3) := by decide +kernel
theorem dX7_receive_199 : decode cX7_receive 199 = .ok (.aload_n 0, 1) := by decide +kernel
theorem dX7_receive_200 : decode cX7_receive 200 = .ok (.getfield 27, 3) := by decide +kernel
theorem dX7_receive_203 : decode cX7_receive 203 = .ok (.getfield 273, 3) := by decide +kernel
theorem dX7_receive_206 : decode cX7_receive 206 = .ok (.if_icmp .ne 62, 3) := by decide +kernel
theorem dX7_receive_209 : decode cX7_receive 209 = .ok (.aload_n 0, 1) := by decide +kernel
theorem dX7_receive_210 : decode cX7_receive 210 = .ok (.getfield 27, 3) := by decide +kernel
theorem dX7_receive_213 : decode cX7_receive 213 = .ok (.dup, 1) := by decide +kernel
theorem dX7_receive_214 : decode cX7_receive 214 = .ok (.getfield 276, 3) := by decide +kernel
theorem dX7_receive_217 : decode cX7_receive 217 = .ok (.iconst 1, 1) := by decide +kernel
theorem dX7_receive_218 : decode cX7_receive 218 = .ok (.iadd, 1) := by decide +kernel
theorem dX7_receive_219 : decode cX7_receive 219 = .ok (.putfield 276, 3) := by decide +kernel
theorem dX7_receive_222 : decode cX7_receive 222 = .ok (.goto 46, 3) := by decide +kernel
theorem dX7_receive_225 : decode cX7_receive 225 = .ok (.aload_n 2, 1) := by decide +kernel
theorem dX7_receive_226 : decode cX7_receive 226 = .ok (.aload_n 1, 1) := by decide +kernel
theorem dX7_receive_227 : decode cX7_receive 227 = .ok (.getfield 267, 3) := by decide +kernel
theorem dX7_receive_230 : decode cX7_receive 230 = .ok (.aload_n 1, 1) := by decide +kernel
theorem dX7_receive_231 : decode cX7_receive 231 = .ok (.getfield 261, 3) := by decide +kernel
theorem dX7_receive_234 : decode cX7_receive 234 = .ok (.aload_n 1, 1) := by decide +kernel
theorem dX7_receive_235 : decode cX7_receive 235 = .ok (.getfield 264, 3) := by decide +kernel
theorem dX7_receive_238 : decode cX7_receive 238 = .ok (.iconst 2, 1) := by decide +kernel
theorem dX7_receive_239 : decode cX7_receive 239 = .ok (.invokevirtual 217, 3) := by decide +kernel
theorem dX7_receive_242 : decode cX7_receive 242 = .ok (.goto 26, 3) := by decide +kernel
theorem dX7_receive_245 : decode cX7_receive 245 = .ok (.aload_n 2, 1) := by decide +kernel
theorem dX7_receive_246 : decode cX7_receive 246 = .ok (.getfield 180, 3) := by decide +kernel
theorem dX7_receive_249 : decode cX7_receive 249 = .ok (.iconst 1, 1) := by decide +kernel
theorem dX7_receive_250 : decode cX7_receive 250 = .ok (.if_icmp .ne 18, 3) := by decide +kernel
theorem dX7_receive_253 : decode cX7_receive 253 = .ok (.aload_n 2, 1) := by decide +kernel
theorem dX7_receive_254 : decode cX7_receive 254 = .ok (.getfield 183, 3) := by decide +kernel
theorem dX7_receive_257 : decode cX7_receive 257 = .ok (.aload_n 1, 1) := by decide +kernel
theorem dX7_receive_258 : decode cX7_receive 258 = .ok (.getfield 267, 3) := by decide +kernel
theorem dX7_receive_261 : decode cX7_receive 261 = .ok (.if_icmp .ne 7, 3) := by decide +kernel
theorem dX7_receive_264 : decode cX7_receive 264 = .ok (.aload_n 2, 1) := by decide +kernel
theorem dX7_receive_265 : decode cX7_receive 265 = .ok (.invokevirtual 279, 3) := by decide +kernel
theorem dX7_receive_268 : decode cX7_receive 268 = .ok (.return_, 1) := by decide +kernel
theorem dX7_isOpen_0 : decode cX7_isOpen 0 = .ok (.aload_n 0, 1) := by decide +kernel
theorem dX7_isOpen_1 : decode cX7_isOpen 1 = .ok (.getfield 27, 3) := by decide +kernel
theorem dX7_isOpen_4 : decode cX7_isOpen 4 = .ok (.getfield 204, 3) := by decide +kernel
theorem dX7_isOpen_7 : decode cX7_isOpen 7 = .ok (.ifCond .ne 17, 3) := by decide +kernel
theorem dX7_isOpen_10 : decode cX7_isOpen 10 = .ok (.iload_n 1, 1) := by decide +kernel
theorem dX7_isOpen_11 : decode cX7_isOpen 11 = .ok (.aload_n 0, 1) := by decide +kernel
theorem dX7_isOpen_12 : decode cX7_isOpen 12 = .ok (.getfield 77, 3) := by decide +kernel
theorem dX7_isOpen_15 : decode cX7_isOpen 15 = .ok (.iconst 1, 1) := by decide +kernel
theorem dX7_isOpen_16 : decode cX7_isOpen 16 = .ok (.isub, 1) := by decide +kernel
theorem dX7_isOpen_17 : decode cX7_isOpen 17 = .ok (.if_icmp .ne 7, 3) := by decide +kernel
theorem dX7_isOpen_20 : decode cX7_isOpen 20 = .ok (.iconst 1, 1) := by decide +kernel
theorem dX7_isOpen_21 : decode cX7_isOpen 21 = .ok (.goto 4, 3) := by decide +kernel
theorem dX7_isOpen_24 : decode cX7_isOpen 24 = .ok (.iconst 0, 1) := by decide +kernel
theorem dX7_isOpen_25 : decode cX7_isOpen 25 = .ok (.ireturn, 1) := by decide +kernel
theorem dX7_commitIfVoted_0 : decode cX7_commitIfVoted 0 = .ok (.aload_n 0, 1) := by decide +kernel
theorem dX7_commitIfVoted_1 : decode cX7_commitIfVoted 1 = .ok (.getfield 27, 3) := by decide +kernel
theorem dX7_commitIfVoted_4 : decode cX7_commitIfVoted 4 = .ok (.getfield 204, 3) := by decide +kernel
theorem dX7_commitIfVoted_7 : decode cX7_commitIfVoted 7 = .ok (.ifCond .ne 20, 3) := by decide +kernel
theorem dX7_commitIfVoted_10 : decode cX7_commitIfVoted 10 = .ok (.aload_n 0, 1) := by decide +kernel
theorem dX7_commitIfVoted_11 : decode cX7_commitIfVoted 11 = .ok (.getfield 27, 3) := by decide +kernel
theorem dX7_commitIfVoted_14 : decode cX7_commitIfVoted 14 = .ok (.getfield 276, 3) := by decide +kernel
theorem dX7_commitIfVoted_17 : decode cX7_commitIfVoted 17 = .ok (.aload_n 0, 1) := by decide +kernel
theorem dX7_commitIfVoted_18 : decode cX7_commitIfVoted 18 = .ok (.getfield 52, 3) := by decide +kernel
theorem dX7_commitIfVoted_21 : decode cX7_commitIfVoted 21 = .ok (.getfield 282, 3) := by decide +kernel
theorem dX7_commitIfVoted_24 : decode cX7_commitIfVoted 24 = .ok (.if_icmp .ge 4, 3) := by decide +kernel
theorem dX7_commitIfVoted_27 : decode cX7_commitIfVoted 27 = .ok (.return_, 1) := by decide +kernel
theorem dX7_commitIfVoted_28 : decode cX7_commitIfVoted 28 = .ok (.aload_n 0, 1) := by decide +kernel
theorem dX7_commitIfVoted_29 : decode cX7_commitIfVoted 29 = .ok (.getfield 27, 3) := by decide +kernel
theorem dX7_commitIfVoted_32 : decode cX7_commitIfVoted 32 = .ok (.iconst 1, 1) := by decide +kernel
theorem dX7_commitIfVoted_33 : decode cX7_commitIfVoted 33 = .ok (.putfield 204, 3) := by decide +kernel
theorem dX7_commitIfVoted_36 : decode cX7_commitIfVoted 36 = .ok (.aload_n 0, 1) := by decide +kernel
theorem dX7_commitIfVoted_37 : decode cX7_commitIfVoted 37 = .ok (.dup, 1) := by decide +kernel
theorem dX7_commitIfVoted_38 : decode cX7_commitIfVoted 38 = .ok (.getfield 80, 3) := by decide +kernel
theorem dX7_commitIfVoted_41 : decode cX7_commitIfVoted 41 = .ok (.iconst 1, 1) := by decide +kernel
theorem dX7_commitIfVoted_42 : decode cX7_commitIfVoted 42 = .ok (.iadd, 1) := by decide +kernel
theorem dX7_commitIfVoted_43 : decode cX7_commitIfVoted 43 = .ok (.putfield 80, 3) := by decide +kernel
theorem dX7_commitIfVoted_46 : decode cX7_commitIfVoted 46 = .ok (.aload_n 0, 1) := by decide +kernel
theorem dX7_commitIfVoted_47 : decode cX7_commitIfVoted 47 = .ok (.aload_n 0, 1) := by decide +kernel
theorem dX7_commitIfVoted_48 : decode cX7_commitIfVoted 48 = .ok (.getfield 27, 3) := by decide +kernel
theorem dX7_commitIfVoted_51 : decode cX7_commitIfVoted 51 = .ok (.getfield 273, 3) := by decide +kernel
theorem dX7_commitIfVoted_54 : decode cX7_commitIfVoted 54 = .ok (.invokevirtual 92, 3) := by decide +kernel
theorem dX7_commitIfVoted_57 : decode cX7_commitIfVoted 57 = .ok (.aload_n 0, 1) := by decide +kernel
theorem dX7_commitIfVoted_58 : decode cX7_commitIfVoted 58 = .ok (.getfield 77, 3) := by decide +kernel
theorem dX7_commitIfVoted_61 : decode cX7_commitIfVoted 61 = .ok (.iconst 1, 1) := by decide +kernel
theorem dX7_commitIfVoted_62 : decode cX7_commitIfVoted 62 = .ok (.isub, 1) := by decide +kernel
theorem dX7_commitIfVoted_63 : decode cX7_commitIfVoted 63 = .ok (.aload_n 0, 1) := by decide +kernel
theorem dX7_commitIfVoted_64 : decode cX7_commitIfVoted 64 = .ok (.getfield 27, 3) := by decide +kernel
theorem dX7_commitIfVoted_67 : decode cX7_commitIfVoted 67 = .ok (.getfield 285, 3) := by decide +kernel
theorem dX7_commitIfVoted_70 : decode cX7_commitIfVoted 70 = .ok (.aload_n 0, 1) := by decide +kernel
theorem dX7_commitIfVoted_71 : decode cX7_commitIfVoted 71 = .ok (.getfield 27, 3) := by decide +kernel
theorem dX7_commitIfVoted_74 : decode cX7_commitIfVoted 74 = .ok (.getfield 214, 3) := by decide +kernel
theorem dX7_commitIfVoted_77 : decode cX7_commitIfVoted 77 = .ok (.iconst 2, 1) := by decide +kernel
theorem dX7_commitIfVoted_78 : decode cX7_commitIfVoted 78 = .ok (.invokevirtual 217, 3) := by decide +kernel
theorem dX7_commitIfVoted_81 : decode cX7_commitIfVoted 81 = .ok (.aload_n 0, 1) := by decide +kernel
theorem dX7_commitIfVoted_82 : decode cX7_commitIfVoted 82 = .ok (.iconst 4, 1) := by decide +kernel
theorem dX7_commitIfVoted_83 : decode cX7_commitIfVoted 83 = .ok (.invokevirtual 220, 3) := by decide +kernel
theorem dX7_commitIfVoted_86 : decode cX7_commitIfVoted 86 = .ok (.return_, 1) := by decide +kernel
theorem dX7_giveUp_0 : decode cX7_giveUp 0 = .ok (.aload_n 0, 1) := by decide +kernel
theorem dX7_giveUp_1 : decode cX7_giveUp 1 = .ok (.getfield 27, 3) := by decide +kernel
theorem dX7_giveUp_4 : decode cX7_giveUp 4 = .ok (.iconst 2, 1) := by decide +kernel
theorem dX7_giveUp_5 : decode cX7_giveUp 5 = .ok (.putfield 204, 3) := by decide +kernel
theorem dX7_giveUp_8 : decode cX7_giveUp 8 = .ok (.aload_n 0, 1) := by decide +kernel
theorem dX7_giveUp_9 : decode cX7_giveUp 9 = .ok (.dup, 1) := by decide +kernel
theorem dX7_giveUp_10 : decode cX7_giveUp 10 = .ok (.getfield 83, 3) := by decide +kernel
theorem dX7_giveUp_13 : decode cX7_giveUp 13 = .ok (.iconst 1, 1) := by decide +kernel
theorem dX7_giveUp_14 : decode cX7_giveUp 14 = .ok (.iadd, 1) := by decide +kernel
theorem dX7_giveUp_15 : decode cX7_giveUp 15 = .ok (.putfield 83, 3) := by decide +kernel
theorem dX7_giveUp_18 : decode cX7_giveUp 18 = .ok (.aload_n 0, 1) := by decide +kernel
theorem dX7_giveUp_19 : decode cX7_giveUp 19 = .ok (.aload_n 0, 1) := by decide +kernel
theorem dX7_giveUp_20 : decode cX7_giveUp 20 = .ok (.getfield 27, 3) := by decide +kernel
theorem dX7_giveUp_23 : decode cX7_giveUp 23 = .ok (.getfield 273, 3) := by decide +kernel
theorem dX7_giveUp_26 : decode cX7_giveUp 26 = .ok (.invokevirtual 92, 3) := by decide +kernel
theorem dX7_giveUp_29 : decode cX7_giveUp 29 = .ok (.astore_n 1, 1) := by decide +kernel
theorem dX7_giveUp_30 : decode cX7_giveUp 30 = .ok (.aload_n 1, 1) := by decide +kernel
theorem dX7_giveUp_31 : decode cX7_giveUp 31 = .ok (.getfield 129, 3) := by decide +kernel
theorem dX7_giveUp_34 : decode cX7_giveUp 34 = .ok (.ifCond .ne 4, 3) := by decide +kernel
theorem dX7_giveUp_37 : decode cX7_giveUp 37 = .ok (.return_, 1) := by decide +kernel
theorem dX7_giveUp_38 : decode cX7_giveUp 38 = .ok (.aload_n 1, 1) := by decide +kernel
theorem dX7_giveUp_39 : decode cX7_giveUp 39 = .ok (.getfield 183, 3) := by decide +kernel
theorem dX7_giveUp_42 : decode cX7_giveUp 42 = .ok (.aload_n 0, 1) := by decide +kernel
theorem dX7_giveUp_43 : decode cX7_giveUp 43 = .ok (.getfield 77, 3) := by decide +kernel
theorem dX7_giveUp_46 : decode cX7_giveUp 46 = .ok (.iconst 1, 1) := by decide +kernel
theorem dX7_giveUp_47 : decode cX7_giveUp 47 = .ok (.isub, 1) := by decide +kernel
theorem dX7_giveUp_48 : decode cX7_giveUp 48 = .ok (.if_icmp .ne 7, 3) := by decide +kernel
theorem dX7_giveUp_51 : decode cX7_giveUp 51 = .ok (.aload_n 1, 1) := by decide +kernel
theorem dX7_giveUp_52 : decode cX7_giveUp 52 = .ok (.invokevirtual 279, 3) := by decide +kernel
theorem dX7_giveUp_55 : decode cX7_giveUp 55 = .ok (.aload_n 0, 1) := by decide +kernel
theorem dX7_giveUp_56 : decode cX7_giveUp 56 = .ok (.iconst 5, 1) := by decide +kernel
theorem dX7_giveUp_57 : decode cX7_giveUp 57 = .ok (.invokevirtual 220, 3) := by decide +kernel
theorem dX7_giveUp_60 : decode cX7_giveUp 60 = .ok (.return_, 1) := by decide +kernel
theorem dX7_changeIfDue_0 : decode cX7_changeIfDue 0 = .ok (.aload_n 0, 1) := by decide +kernel
theorem dX7_changeIfDue_1 : decode cX7_changeIfDue 1 = .ok (.iload_n 1, 1) := by decide +kernel
theorem dX7_changeIfDue_2 : decode cX7_changeIfDue 2 = .ok (.invokevirtual 92, 3) := by decide +kernel
theorem dX7_changeIfDue_5 : decode cX7_changeIfDue 5 = .ok (.astore_n 2, 1) := by decide +kernel
theorem dX7_changeIfDue_6 : decode cX7_changeIfDue 6 = .ok (.aload_n 0, 1) := by decide +kernel
theorem dX7_changeIfDue_7 : decode cX7_changeIfDue 7 = .ok (.iload_n 1, 1) := by decide +kernel
theorem dX7_changeIfDue_8 : decode cX7_changeIfDue 8 = .ok (.invokevirtual 116, 3) := by decide +kernel
theorem dX7_changeIfDue_11 : decode cX7_changeIfDue 11 = .ok (.istore_n 3, 1) := by decide +kernel
theorem dX7_changeIfDue_12 : decode cX7_changeIfDue 12 = .ok (.aload_n 2, 1) := by decide +kernel
theorem dX7_changeIfDue_13 : decode cX7_changeIfDue 13 = .ok (.iload_n 3, 1) := by decide +kernel
theorem dX7_changeIfDue_14 : decode cX7_changeIfDue 14 = .ok (.invokevirtual 286, 3) := by decide +kernel
theorem dX7_changeIfDue_17 : decode cX7_changeIfDue 17 = .ok (.ifCond .ne 4, 3) := by decide +kernel
theorem dX7_changeIfDue_20 : decode cX7_changeIfDue 20 = .ok (.return_, 1) := by decide +kernel
theorem dX7_changeIfDue_21 : decode cX7_changeIfDue 21 = .ok (.iload_n 3, 1) := by decide +kernel
theorem dX7_changeIfDue_22 : decode cX7_changeIfDue 22 = .ok (.aload_n 2, 1) := by decide +kernel
theorem dX7_changeIfDue_23 : decode cX7_changeIfDue 23 = .ok (.getfield 289, 3) := by decide +kernel
theorem dX7_changeIfDue_26 : decode cX7_changeIfDue 26 = .ok (.if_icmp .le 7, 3) := by decide +kernel
theorem dX7_changeIfDue_29 : decode cX7_changeIfDue 29 = .ok (.iconst 1, 1) := by decide +kernel
theorem dX7_changeIfDue_30 : decode cX7_changeIfDue 30 = .ok (.goto 4, 3) := by decide +kernel
theorem dX7_changeIfDue_33 : decode cX7_changeIfDue 33 = .ok (.iconst 0, 1) := by decide +kernel
theorem dX7_changeIfDue_34 : decode cX7_changeIfDue 34 = .ok (.istore 4, 2) := by decide +kernel
theorem dX7_changeIfDue_36 : decode cX7_changeIfDue 36 = .ok (.aload_n 2, 1) := by decide +kernel
theorem dX7_changeIfDue_37 : decode cX7_changeIfDue 37 = .ok (.getfield 183, 3) := by decide +kernel
theorem dX7_changeIfDue_40 : decode cX7_changeIfDue 40 = .ok (.aload_n 0, 1) := by decide +kernel
theorem dX7_changeIfDue_41 : decode cX7_changeIfDue 41 = .ok (.getfield 77, 3) := by decide +kernel
theorem dX7_changeIfDue_44 : decode cX7_changeIfDue 44 = .ok (.iconst 1, 1) := by decide +kernel
theorem dX7_changeIfDue_45 : decode cX7_changeIfDue 45 = .ok (.isub, 1) := by decide +kernel
theorem dX7_changeIfDue_46 : decode cX7_changeIfDue 46 = .ok (.if_icmp .ne 14, 3) := by decide +kernel
theorem dX7_changeIfDue_49 : decode cX7_changeIfDue 49 = .ok (.aload_n 0, 1) := by decide +kernel
theorem dX7_changeIfDue_50 : decode cX7_changeIfDue 50 = .ok (.getfield 27, 3) := by decide +kernel
theorem dX7_changeIfDue_53 : decode cX7_changeIfDue 53 = .ok (.aload_n 0, 1) := by decide +kernel
theorem dX7_changeIfDue_54 : decode cX7_changeIfDue 54 = .ok (.getfield 64, 3) := by decide +kernel
theorem dX7_changeIfDue_57 : decode cX7_changeIfDue 57 = .ok (.invokevirtual 292, 3) := by decide +kernel
theorem dX7_changeIfDue_60 : decode cX7_changeIfDue 60 = .ok (.aload_n 2, 1) := by decide +kernel
theorem dX7_changeIfDue_61 : decode cX7_changeIfDue 61 = .ok (.aload_n 0, 1) := by decide +kernel
theorem dX7_changeIfDue_62 : decode cX7_changeIfDue 62 = .ok (.getfield 64, 3) := by decide +kernel
theorem dX7_changeIfDue_65 : decode cX7_changeIfDue 65 = .ok (.iload 4, 2) := by decide +kernel
theorem dX7_changeIfDue_67 : decode cX7_changeIfDue 67 = .ok (.invokevirtual 295, 3) := by decide +kernel
theorem dX7_changeIfDue_70 : decode cX7_changeIfDue 70 = .ok (.aload_n 0, 1) := by decide +kernel
theorem dX7_changeIfDue_71 : decode cX7_changeIfDue 71 = .ok (.dup, 1) := by decide +kernel
theorem dX7_changeIfDue_72 : decode cX7_changeIfDue 72 = .ok (.getfield 86, 3) := by decide +kernel
theorem dX7_changeIfDue_75 : decode cX7_changeIfDue 75 = .ok (.iconst 1, 1) := by decide +kernel
theorem dX7_changeIfDue_76 : decode cX7_changeIfDue 76 = .ok (.iadd, 1) := by decide +kernel
theorem dX7_changeIfDue_77 : decode cX7_changeIfDue 77 = .ok (.putfield 86, 3) := by decide +kernel
theorem dX7_changeIfDue_80 : decode cX7_changeIfDue 80 = .ok (.iload 4, 2) := by decide +kernel
theorem dX7_changeIfDue_82 : decode cX7_changeIfDue 82 = .ok (.ifCond .eq 13, 3) := by decide +kernel
theorem dX7_changeIfDue_85 : decode cX7_changeIfDue 85 = .ok (.aload_n 0, 1) := by decide +kernel
theorem dX7_changeIfDue_86 : decode cX7_changeIfDue 86 = .ok (.dup, 1) := by decide +kernel
theorem dX7_changeIfDue_87 : decode cX7_changeIfDue 87 = .ok (.getfield 89, 3) := by decide +kernel
theorem dX7_changeIfDue_90 : decode cX7_changeIfDue 90 = .ok (.iconst 1, 1) := by decide +kernel
theorem dX7_changeIfDue_91 : decode cX7_changeIfDue 91 = .ok (.iadd, 1) := by decide +kernel
theorem dX7_changeIfDue_92 : decode cX7_changeIfDue 92 = .ok (.putfield 89, 3) := by decide +kernel
theorem dX7_changeIfDue_95 : decode cX7_changeIfDue 95 = .ok (.return_, 1) := by decide +kernel
theorem dX7_sendToOthers_0 : decode cX7_sendToOthers 0 = .ok (.iconst 0, 1) := by decide +kernel
theorem dX7_sendToOthers_1 : decode cX7_sendToOthers 1 = .ok (.istore_n 2, 1) := by decide +kernel
theorem dX7_sendToOthers_2 : decode cX7_sendToOthers 2 = .ok (.iload_n 2, 1) := by decide +kernel
theorem dX7_sendToOthers_3 : decode cX7_sendToOthers 3 = .ok (.aload_n 0, 1) := by decide +kernel
theorem dX7_sendToOthers_4 : decode cX7_sendToOthers 4 = .ok (.getfield 52, 3) := by decide +kernel
theorem dX7_sendToOthers_7 : decode cX7_sendToOthers 7 = .ok (.getfield 127, 3) := by decide +kernel
theorem dX7_sendToOthers_10 : decode cX7_sendToOthers 10 = .ok (.if_icmp .ge 54, 3) := by decide +kernel
theorem dX7_sendToOthers_13 : decode cX7_sendToOthers 13 = .ok (.iload_n 2, 1) := by decide +kernel
theorem dX7_sendToOthers_14 : decode cX7_sendToOthers 14 = .ok (.aload_n 0, 1) := by decide +kernel
theorem dX7_sendToOthers_15 : decode cX7_sendToOthers 15 = .ok (.getfield 27, 3) := by decide +kernel
theorem dX7_sendToOthers_18 : decode cX7_sendToOthers 18 = .ok (.getfield 273, 3) := by decide +kernel
theorem dX7_sendToOthers_21 : decode cX7_sendToOthers 21 = .ok (.if_icmp .eq 37, 3) := by decide +kernel
theorem dX7_sendToOthers_24 : decode cX7_sendToOthers 24 = .ok (.aload_n 0, 1) := by decide +kernel
theorem dX7_sendToOthers_25 : decode cX7_sendToOthers 25 = .ok (.iload_n 1, 1) := by decide +kernel
theorem dX7_sendToOthers_26 : decode cX7_sendToOthers 26 = .ok (.aload_n 0, 1) := by decide +kernel
theorem dX7_sendToOthers_27 : decode cX7_sendToOthers 27 = .ok (.getfield 27, 3) := by decide +kernel
theorem dX7_sendToOthers_30 : decode cX7_sendToOthers 30 = .ok (.getfield 273, 3) := by decide +kernel
theorem dX7_sendToOthers_33 : decode cX7_sendToOthers 33 = .ok (.iload_n 2, 1) := by decide +kernel
theorem dX7_sendToOthers_34 : decode cX7_sendToOthers 34 = .ok (.aload_n 0, 1) := by decide +kernel
theorem dX7_sendToOthers_35 : decode cX7_sendToOthers 35 = .ok (.getfield 77, 3) := by decide +kernel
theorem dX7_sendToOthers_38 : decode cX7_sendToOthers 38 = .ok (.iconst 1, 1) := by decide +kernel
theorem dX7_sendToOthers_39 : decode cX7_sendToOthers 39 = .ok (.isub, 1) := by decide +kernel
theorem dX7_sendToOthers_40 : decode cX7_sendToOthers 40 = .ok (.aload_n 0, 1) := by decide +kernel
theorem dX7_sendToOthers_41 : decode cX7_sendToOthers 41 = .ok (.getfield 27, 3) := by decide +kernel
theorem dX7_sendToOthers_44 : decode cX7_sendToOthers 44 = .ok (.getfield 285, 3) := by decide +kernel
theorem dX7_sendToOthers_47 : decode cX7_sendToOthers 47 = .ok (.aload_n 0, 1) := by decide +kernel
theorem dX7_sendToOthers_48 : decode cX7_sendToOthers 48 = .ok (.getfield 27, 3) := by decide +kernel
theorem dX7_sendToOthers_51 : decode cX7_sendToOthers 51 = .ok (.getfield 214, 3) := by decide +kernel
theorem dX7_sendToOthers_54 : decode cX7_sendToOthers 54 = .ok (.invokevirtual 226, 3) := by decide +kernel
theorem dX7_sendToOthers_57 : decode cX7_sendToOthers 57 = .ok (.pop, 1) := by decide +kernel
theorem dX7_sendToOthers_58 : decode cX7_sendToOthers 58 = .ok (.iinc 2 1, 3) := by decide +kernel
theorem dX7_sendToOthers_61 : decode cX7_sendToOthers 61 = .ok (.goto (-59), 3) := by decide +kernel
theorem dX7_sendToOthers_64 : decode cX7_sendToOthers 64 = .ok (.return_, 1) := by decide +kernel
theorem dX7_send_0 : decode cX7_send 0 = .ok (.aload_n 0, 1) := by decide +kernel
theorem dX7_send_1 : decode cX7_send 1 = .ok (.getfield 38, 3) := by decide +kernel
theorem dX7_send_4 : decode cX7_send 4 = .ok (.astore 7, 2) := by decide +kernel
theorem dX7_send_6 : decode cX7_send 6 = .ok (.aload 7, 2) := by decide +kernel
theorem dX7_send_8 : decode cX7_send 8 = .ok (.iload_n 1, 1) := by decide +kernel
theorem dX7_send_9 : decode cX7_send 9 = .ok (.putfield 255, 3) := by decide +kernel
theorem dX7_send_12 : decode cX7_send 12 = .ok (.aload 7, 2) := by decide +kernel
theorem dX7_send_14 : decode cX7_send 14 = .ok (.iload_n 2, 1) := by decide +kernel
theorem dX7_send_15 : decode cX7_send 15 = .ok (.putfield 258, 3) := by decide +kernel
theorem dX7_send_18 : decode cX7_send 18 = .ok (.aload 7, 2) := by decide +kernel
theorem dX7_send_20 : decode cX7_send 20 = .ok (.iload_n 3, 1) := by decide +kernel
theorem dX7_send_21 : decode cX7_send 21 = .ok (.putfield 252, 3) := by decide +kernel
theorem dX7_send_24 : decode cX7_send 24 = .ok (.aload 7, 2) := by decide +kernel
theorem dX7_send_26 : decode cX7_send 26 = .ok (.aload_n 0, 1) := by decide +kernel
theorem dX7_send_27 : decode cX7_send 27 = .ok (.getfield 71, 3) := by decide +kernel
theorem dX7_send_30 : decode cX7_send 30 = .ok (.putfield 299, 3) := by decide +kernel
theorem dX7_send_33 : decode cX7_send 33 = .ok (.aload 7, 2) := by decide +kernel
theorem dX7_send_35 : decode cX7_send 35 = .ok (.iload 4, 2) := by decide +kernel
theorem dX7_send_37 : decode cX7_send 37 = .ok (.putfield 267, 3) := by decide +kernel
theorem dX7_send_40 : decode cX7_send 40 = .ok (.aload 7, 2) := by decide +kernel
theorem dX7_send_42 : decode cX7_send 42 = .ok (.iload 5, 2) := by decide +kernel
theorem dX7_send_44 : decode cX7_send 44 = .ok (.putfield 261, 3) := by decide +kernel
theorem dX7_send_47 : decode cX7_send 47 = .ok (.aload 7, 2) := by decide +kernel
theorem dX7_send_49 : decode cX7_send 49 = .ok (.iload 6, 2) := by decide +kernel
theorem dX7_send_51 : decode cX7_send 51 = .ok (.putfield 264, 3) := by decide +kernel
theorem dX7_send_54 : decode cX7_send 54 = .ok (.aload_n 0, 1) := by decide +kernel
theorem dX7_send_55 : decode cX7_send 55 = .ok (.dup, 1) := by decide +kernel
theorem dX7_send_56 : decode cX7_send 56 = .ok (.getfield 71, 3) := by decide +kernel
theorem dX7_send_59 : decode cX7_send 59 = .ok (.iconst 1, 1) := by decide +kernel
theorem dX7_send_60 : decode cX7_send 60 = .ok (.iadd, 1) := by decide +kernel
theorem dX7_send_61 : decode cX7_send 61 = .ok (.putfield 71, 3) := by decide +kernel
theorem dX7_send_64 : decode cX7_send 64 = .ok (.aload_n 0, 1) := by decide +kernel
theorem dX7_send_65 : decode cX7_send 65 = .ok (.getfield 52, 3) := by decide +kernel
theorem dX7_send_68 : decode cX7_send 68 = .ok (.iload_n 2, 1) := by decide +kernel
theorem dX7_send_69 : decode cX7_send 69 = .ok (.iload_n 3, 1) := by decide +kernel
theorem dX7_send_70 : decode cX7_send 70 = .ok (.invokevirtual 119, 3) := by decide +kernel
theorem dX7_send_73 : decode cX7_send 73 = .ok (.istore 8, 2) := by decide +kernel
theorem dX7_send_75 : decode cX7_send 75 = .ok (.iload 8, 2) := by decide +kernel
theorem dX7_send_77 : decode cX7_send 77 = .ok (.ifCond .le 33, 3) := by decide +kernel
theorem dX7_send_80 : decode cX7_send 80 = .ok (.aload_n 0, 1) := by decide +kernel
theorem dX7_send_81 : decode cX7_send 81 = .ok (.iload_n 2, 1) := by decide +kernel
theorem dX7_send_82 : decode cX7_send 82 = .ok (.iload_n 3, 1) := by decide +kernel
theorem dX7_send_83 : decode cX7_send 83 = .ok (.invokevirtual 140, 3) := by decide +kernel
theorem dX7_send_86 : decode cX7_send 86 = .ok (.ifCond .ne 24, 3) := by decide +kernel
theorem dX7_send_89 : decode cX7_send 89 = .ok (.aload_n 0, 1) := by decide +kernel
theorem dX7_send_90 : decode cX7_send 90 = .ok (.getfield 20, 3) := by decide +kernel
theorem dX7_send_93 : decode cX7_send 93 = .ok (.aload_n 0, 1) := by decide +kernel
theorem dX7_send_94 : decode cX7_send 94 = .ok (.getfield 64, 3) := by decide +kernel
theorem dX7_send_97 : decode cX7_send 97 = .ok (.iload 8, 2) := by decide +kernel
theorem dX7_send_99 : decode cX7_send 99 = .ok (.iadd, 1) := by decide +kernel
theorem dX7_send_100 : decode cX7_send 100 = .ok (.aload 7, 2) := by decide +kernel
theorem dX7_send_102 : decode cX7_send 102 = .ok (.invokevirtual 302, 3) := by decide +kernel
theorem dX7_send_105 : decode cX7_send 105 = .ok (.ifCond .eq 5, 3) := by decide +kernel
theorem dX7_send_108 : decode cX7_send 108 = .ok (.iconst 1, 1) := by decide +kernel
theorem dX7_send_109 : decode cX7_send 109 = .ok (.ireturn, 1) := by decide +kernel
theorem dX7_send_110 : decode cX7_send 110 = .ok (.aload_n 0, 1) := by decide +kernel
theorem dX7_send_111 : decode cX7_send 111 = .ok (.dup, 1) := by decide +kernel
theorem dX7_send_112 : decode cX7_send 112 = .ok (.getfield 74, 3) := by decide +kernel
theorem dX7_send_115 : decode cX7_send 115 = .ok (.iconst 1, 1) := by decide +kernel
theorem dX7_send_116 : decode cX7_send 116 = .ok (.iadd, 1) := by decide +kernel
theorem dX7_send_117 : decode cX7_send 117 = .ok (.putfield 74, 3) := by decide +kernel
theorem dX7_send_120 : decode cX7_send 120 = .ok (.iconst 0, 1) := by decide +kernel
theorem dX7_send_121 : decode cX7_send 121 = .ok (.ireturn, 1) := by decide +kernel
theorem dX8_init_0 : decode cX8_init 0 = .ok (.aload_n 0, 1) := by decide +kernel
theorem dX8_init_1 : decode cX8_init 1 = .ok (.invokespecial 1, 3) := by decide +kernel
theorem dX8_init_4 : decode cX8_init 4 = .ok (.aload_n 0, 1) := by decide +kernel
theorem dX8_init_5 : decode cX8_init 5 = .ok (.new 7, 3) := by decide +kernel
theorem dX8_init_8 : decode cX8_init 8 = .ok (.dup, 1) := by decide +kernel
theorem dX8_init_9 : decode cX8_init 9 = .ok (.invokespecial 9, 3) := by decide +kernel
theorem dX8_init_12 : decode cX8_init 12 = .ok (.putfield 10, 3) := by decide +kernel
theorem dX8_init_15 : decode cX8_init 15 = .ok (.aload_n 0, 1) := by decide +kernel
theorem dX8_init_16 : decode cX8_init 16 = .ok (.new 16, 3) := by decide +kernel
theorem dX8_init_19 : decode cX8_init 19 = .ok (.dup, 1) := by decide +kernel
theorem dX8_init_20 : decode cX8_init 20 = .ok (.invokespecial 18, 3) := by decide +kernel
theorem dX8_init_23 : decode cX8_init 23 = .ok (.putfield 19, 3) := by decide +kernel
theorem dX8_init_26 : decode cX8_init 26 = .ok (.aload_n 0, 1) := by decide +kernel
theorem dX8_init_27 : decode cX8_init 27 = .ok (.new 16, 3) := by decide +kernel
theorem dX8_init_30 : decode cX8_init 30 = .ok (.dup, 1) := by decide +kernel
theorem dX8_init_31 : decode cX8_init 31 = .ok (.invokespecial 18, 3) := by decide +kernel
theorem dX8_init_34 : decode cX8_init 34 = .ok (.putfield 23, 3) := by decide +kernel
theorem dX8_init_37 : decode cX8_init 37 = .ok (.aload_n 0, 1) := by decide +kernel
theorem dX8_init_38 : decode cX8_init 38 = .ok (.bipush 8, 2) := by decide +kernel
theorem dX8_init_40 : decode cX8_init 40 = .ok (.anewarray 16, 3) := by decide +kernel
theorem dX8_init_43 : decode cX8_init 43 = .ok (.putfield 26, 3) := by decide +kernel
theorem dX8_init_46 : decode cX8_init 46 = .ok (.aload_n 0, 1) := by decide +kernel
theorem dX8_init_47 : decode cX8_init 47 = .ok (.iconst (-1), 1) := by decide +kernel
theorem dX8_init_48 : decode cX8_init 48 = .ok (.putfield 30, 3) := by decide +kernel
theorem dX8_init_51 : decode cX8_init 51 = .ok (.iconst 0, 1) := by decide +kernel
theorem dX8_init_52 : decode cX8_init 52 = .ok (.istore_n 1, 1) := by decide +kernel
theorem dX8_init_53 : decode cX8_init 53 = .ok (.iload_n 1, 1) := by decide +kernel
theorem dX8_init_54 : decode cX8_init 54 = .ok (.aload_n 0, 1) := by decide +kernel
theorem dX8_init_55 : decode cX8_init 55 = .ok (.getfield 26, 3) := by decide +kernel
theorem dX8_init_58 : decode cX8_init 58 = .ok (.arraylength, 1) := by decide +kernel
theorem dX8_init_59 : decode cX8_init 59 = .ok (.if_icmp .ge 22, 3) := by decide +kernel
theorem dX8_init_62 : decode cX8_init 62 = .ok (.aload_n 0, 1) := by decide +kernel
theorem dX8_init_63 : decode cX8_init 63 = .ok (.getfield 26, 3) := by decide +kernel
theorem dX8_init_66 : decode cX8_init 66 = .ok (.iload_n 1, 1) := by decide +kernel
theorem dX8_init_67 : decode cX8_init 67 = .ok (.new 16, 3) := by decide +kernel
theorem dX8_init_70 : decode cX8_init 70 = .ok (.dup, 1) := by decide +kernel
theorem dX8_init_71 : decode cX8_init 71 = .ok (.invokespecial 18, 3) := by decide +kernel
theorem dX8_init_74 : decode cX8_init 74 = .ok (.aastore, 1) := by decide +kernel
theorem dX8_init_75 : decode cX8_init 75 = .ok (.iinc 1 1, 3) := by decide +kernel
theorem dX8_init_78 : decode cX8_init 78 = .ok (.goto (-25), 3) := by decide +kernel
theorem dX8_init_81 : decode cX8_init 81 = .ok (.return_, 1) := by decide +kernel
theorem dX8_append_0 : decode cX8_append 0 = .ok (.aload_n 0, 1) := by decide +kernel
theorem dX8_append_1 : decode cX8_append 1 = .ok (.getfield 10, 3) := by decide +kernel
theorem dX8_append_4 : decode cX8_append 4 = .ok (.bipush 20, 2) := by decide +kernel
theorem dX8_append_6 : decode cX8_append 6 = .ok (.invokevirtual 34, 3) := by decide +kernel
theorem dX8_append_9 : decode cX8_append 9 = .ok (.ifCond .ne 5, 3) := by decide +kernel
theorem dX8_append_12 : decode cX8_append 12 = .ok (.iconst (-1), 1) := by decide +kernel
theorem dX8_append_13 : decode cX8_append 13 = .ok (.ireturn, 1) := by decide +kernel
theorem dX8_append_14 : decode cX8_append 14 = .ok (.aload_n 0, 1) := by decide +kernel
theorem dX8_append_15 : decode cX8_append 15 = .ok (.getfield 10, 3) := by decide +kernel
theorem dX8_append_18 : decode cX8_append 18 = .ok (.iload_n 1, 1) := by decide +kernel
theorem dX8_append_19 : decode cX8_append 19 = .ok (.invokevirtual 38, 3) := by decide +kernel
theorem dX8_append_22 : decode cX8_append 22 = .ok (.aload_n 0, 1) := by decide +kernel
theorem dX8_append_23 : decode cX8_append 23 = .ok (.getfield 10, 3) := by decide +kernel
theorem dX8_append_26 : decode cX8_append 26 = .ok (.iload_n 2, 1) := by decide +kernel
theorem dX8_append_27 : decode cX8_append 27 = .ok (.invokevirtual 38, 3) := by decide +kernel
theorem dX8_append_30 : decode cX8_append 30 = .ok (.aload_n 0, 1) := by decide +kernel
theorem dX8_append_31 : decode cX8_append 31 = .ok (.getfield 10, 3) := by decide +kernel
theorem dX8_append_34 : decode cX8_append 34 = .ok (.iload_n 3, 1) := by decide +kernel
theorem dX8_append_35 : decode cX8_append 35 = .ok (.invokevirtual 38, 3) := by decide +kernel
theorem dX8_append_38 : decode cX8_append 38 = .ok (.aload_n 0, 1) := by decide +kernel
theorem dX8_append_39 : decode cX8_append 39 = .ok (.getfield 10, 3) := by decide +kernel
theorem dX8_append_42 : decode cX8_append 42 = .ok (.iload 4, 2) := by decide +kernel
theorem dX8_append_44 : decode cX8_append 44 = .ok (.invokevirtual 38, 3) := by decide +kernel
theorem dX8_append_47 : decode cX8_append 47 = .ok (.aload_n 0, 1) := by decide +kernel
theorem dX8_append_48 : decode cX8_append 48 = .ok (.getfield 10, 3) := by decide +kernel
theorem dX8_append_51 : decode cX8_append 51 = .ok (.iload 5, 2) := by decide +kernel
theorem dX8_append_53 : decode cX8_append 53 = .ok (.invokevirtual 38, 3) := by decide +kernel
theorem dX8_append_56 : decode cX8_append 56 = .ok (.aload_n 0, 1) := by decide +kernel
theorem dX8_append_57 : decode cX8_append 57 = .ok (.getfield 10, 3) := by decide +kernel
theorem dX8_append_60 : decode cX8_append 60 = .ok (.getfield 42, 3) := by decide +kernel
theorem dX8_append_63 : decode cX8_append 63 = .ok (.ireturn, 1) := by decide +kernel
theorem dX8_load_0 : decode cX8_load 0 = .ok (.iload_n 1, 1) := by decide +kernel
theorem dX8_load_1 : decode cX8_load 1 = .ok (.ifCond .lt 14, 3) := by decide +kernel
theorem dX8_load_4 : decode cX8_load 4 = .ok (.iload_n 1, 1) := by decide +kernel
theorem dX8_load_5 : decode cX8_load 5 = .ok (.aload_n 0, 1) := by decide +kernel
theorem dX8_load_6 : decode cX8_load 6 = .ok (.getfield 10, 3) := by decide +kernel
theorem dX8_load_9 : decode cX8_load 9 = .ok (.getfield 42, 3) := by decide +kernel
theorem dX8_load_12 : decode cX8_load 12 = .ok (.if_icmp .le 13, 3) := by decide +kernel
theorem dX8_load_15 : decode cX8_load 15 = .ok (.new 45, 3) := by decide +kernel
theorem dX8_load_18 : decode cX8_load 18 = .ok (.dup, 1) := by decide +kernel
theorem dX8_load_19 : decode cX8_load 19 = .ok (.ldc 47, 2) := by decide +kernel
theorem dX8_load_21 : decode cX8_load 21 = .ok (.invokespecial 49, 3) := by decide +kernel
theorem dX8_load_24 : decode cX8_load 24 = .ok (.athrow, 1) := by decide +kernel
theorem dX8_load_25 : decode cX8_load 25 = .ok (.aload_n 0, 1) := by decide +kernel
theorem dX8_load_26 : decode cX8_load 26 = .ok (.getfield 10, 3) := by decide +kernel
theorem dX8_load_29 : decode cX8_load 29 = .ok (.iload_n 1, 1) := by decide +kernel
theorem dX8_load_30 : decode cX8_load 30 = .ok (.invokevirtual 52, 3) := by decide +kernel
theorem dX8_load_33 : decode cX8_load 33 = .ok (.astore_n 2, 1) := by decide +kernel
theorem dX8_load_34 : decode cX8_load 34 = .ok (.aload_n 0, 1) := by decide +kernel
theorem dX8_load_35 : decode cX8_load 35 = .ok (.aload_n 0, 1) := by decide +kernel
theorem dX8_load_36 : decode cX8_load 36 = .ok (.getfield 10, 3) := by decide +kernel
theorem dX8_load_39 : decode cX8_load 39 = .ok (.getfield 56, 3) := by decide +kernel
theorem dX8_load_42 : decode cX8_load 42 = .ok (.putfield 30, 3) := by decide +kernel
theorem dX8_load_45 : decode cX8_load 45 = .ok (.aload_n 2, 1) := by decide +kernel
theorem dX8_load_46 : decode cX8_load 46 = .ok (.ifnonnull 11, 3) := by decide +kernel
theorem dX8_load_49 : decode cX8_load 49 = .ok (.aload_n 0, 1) := by decide +kernel
theorem dX8_load_50 : decode cX8_load 50 = .ok (.getfield 10, 3) := by decide +kernel
theorem dX8_load_53 : decode cX8_load 53 = .ok (.getfield 59, 3) := by decide +kernel
theorem dX8_load_56 : decode cX8_load 56 = .ok (.ireturn, 1) := by decide +kernel
theorem dX8_load_57 : decode cX8_load 57 = .ok (.aload_n 0, 1) := by decide +kernel
theorem dX8_load_58 : decode cX8_load 58 = .ok (.invokevirtual 62, 3) := by decide +kernel
theorem dX8_load_61 : decode cX8_load 61 = .ok (.aload_n 0, 1) := by decide +kernel
theorem dX8_load_62 : decode cX8_load 62 = .ok (.getfield 19, 3) := by decide +kernel
theorem dX8_load_65 : decode cX8_load 65 = .ok (.aload_n 2, 1) := by decide +kernel
theorem dX8_load_66 : decode cX8_load 66 = .ok (.invokevirtual 65, 3) := by decide +kernel
theorem dX8_load_69 : decode cX8_load 69 = .ok (.aload_n 2, 1) := by decide +kernel
theorem dX8_load_70 : decode cX8_load 70 = .ok (.getfield 69, 3) := by decide +kernel
theorem dX8_load_73 : decode cX8_load 73 = .ok (.ireturn, 1) := by decide +kernel
theorem dX8_errorOffset_0 : decode cX8_errorOffset 0 = .ok (.aload_n 0, 1) := by decide +kernel
theorem dX8_errorOffset_1 : decode cX8_errorOffset 1 = .ok (.getfield 30, 3) := by decide +kernel
theorem dX8_errorOffset_4 : decode cX8_errorOffset 4 = .ok (.ireturn, 1) := by decide +kernel
theorem dX8_state_0 : decode cX8_state 0 = .ok (.aload_n 0, 1) := by decide +kernel
theorem dX8_state_1 : decode cX8_state 1 = .ok (.iload_n 1, 1) := by decide +kernel
theorem dX8_state_2 : decode cX8_state 2 = .ok (.bipush 12, 2) := by decide +kernel
theorem dX8_state_4 : decode cX8_state 4 = .ok (.invokevirtual 74, 3) := by decide +kernel
theorem dX8_state_7 : decode cX8_state 7 = .ok (.aload_n 0, 1) := by decide +kernel
theorem dX8_state_8 : decode cX8_state 8 = .ok (.getfield 19, 3) := by decide +kernel
theorem dX8_state_11 : decode cX8_state 11 = .ok (.iload_n 1, 1) := by decide +kernel
theorem dX8_state_12 : decode cX8_state 12 = .ok (.invokevirtual 78, 3) := by decide +kernel
theorem dX8_state_15 : decode cX8_state 15 = .ok (.ireturn, 1) := by decide +kernel
theorem dX8_player_0 : decode cX8_player 0 = .ok (.aload_n 0, 1) := by decide +kernel
theorem dX8_player_1 : decode cX8_player 1 = .ok (.iload_n 1, 1) := by decide +kernel
theorem dX8_player_2 : decode cX8_player 2 = .ok (.invokevirtual 82, 3) := by decide +kernel
theorem dX8_player_5 : decode cX8_player 5 = .ok (.aload_n 0, 1) := by decide +kernel
theorem dX8_player_6 : decode cX8_player 6 = .ok (.iload_n 2, 1) := by decide +kernel
theorem dX8_player_7 : decode cX8_player 7 = .ok (.bipush 9, 2) := by decide +kernel
theorem dX8_player_9 : decode cX8_player 9 = .ok (.invokevirtual 74, 3) := by decide +kernel
theorem dX8_player_12 : decode cX8_player 12 = .ok (.aload_n 0, 1) := by decide +kernel
theorem dX8_player_13 : decode cX8_player 13 = .ok (.getfield 19, 3) := by decide +kernel
theorem dX8_player_16 : decode cX8_player 16 = .ok (.iload_n 1, 1) := by decide +kernel
theorem dX8_player_17 : decode cX8_player 17 = .ok (.iload_n 2, 1) := by decide +kernel
theorem dX8_player_18 : decode cX8_player 18 = .ok (.invokevirtual 85, 3) := by decide +kernel
theorem dX8_player_21 : decode cX8_player 21 = .ok (.ireturn, 1) := by decide +kernel
theorem dX8_link_0 : decode cX8_link 0 = .ok (.aload_n 0, 1) := by decide +kernel
theorem dX8_link_1 : decode cX8_link 1 = .ok (.iload_n 1, 1) := by decide +kernel
theorem dX8_link_2 : decode cX8_link 2 = .ok (.invokevirtual 82, 3) := by decide +kernel
theorem dX8_link_5 : decode cX8_link 5 = .ok (.aload_n 0, 1) := by decide +kernel
theorem dX8_link_6 : decode cX8_link 6 = .ok (.iload_n 2, 1) := by decide +kernel
theorem dX8_link_7 : decode cX8_link 7 = .ok (.invokevirtual 82, 3) := by decide +kernel
theorem dX8_link_10 : decode cX8_link 10 = .ok (.aload_n 0, 1) := by decide +kernel
theorem dX8_link_11 : decode cX8_link 11 = .ok (.getfield 19, 3) := by decide +kernel
theorem dX8_link_14 : decode cX8_link 14 = .ok (.iload_n 1, 1) := by decide +kernel
theorem dX8_link_15 : decode cX8_link 15 = .ok (.iload_n 2, 1) := by decide +kernel
theorem dX8_link_16 : decode cX8_link 16 = .ok (.invokevirtual 89, 3) := by decide +kernel
theorem dX8_link_19 : decode cX8_link 19 = .ok (.ifCond .eq 16, 3) := by decide +kernel
theorem dX8_link_22 : decode cX8_link 22 = .ok (.aload_n 0, 1) := by decide +kernel
theorem dX8_link_23 : decode cX8_link 23 = .ok (.getfield 19, 3) := by decide +kernel
theorem dX8_link_26 : decode cX8_link 26 = .ok (.iload_n 1, 1) := by decide +kernel
theorem dX8_link_27 : decode cX8_link 27 = .ok (.iload_n 2, 1) := by decide +kernel
theorem dX8_link_28 : decode cX8_link 28 = .ok (.invokevirtual 93, 3) := by decide +kernel
theorem dX8_link_31 : decode cX8_link 31 = .ok (.ineg, 1) := by decide +kernel
theorem dX8_link_32 : decode cX8_link 32 = .ok (.goto 12, 3) := by decide +kernel
theorem dX8_link_35 : decode cX8_link 35 = .ok (.aload_n 0, 1) := by decide +kernel
theorem dX8_link_36 : decode cX8_link 36 = .ok (.getfield 19, 3) := by decide +kernel
theorem dX8_link_39 : decode cX8_link 39 = .ok (.iload_n 1, 1) := by decide +kernel
theorem dX8_link_40 : decode cX8_link 40 = .ok (.iload_n 2, 1) := by decide +kernel
theorem dX8_link_41 : decode cX8_link 41 = .ok (.invokevirtual 93, 3) := by decide +kernel
theorem dX8_link_44 : decode cX8_link 44 = .ok (.ireturn, 1) := by decide +kernel
theorem dX8_message_0 : decode cX8_message 0 = .ok (.iload_n 1, 1) := by decide +kernel
theorem dX8_message_1 : decode cX8_message 1 = .ok (.ifCond .lt 17, 3) := by decide +kernel
theorem dX8_message_4 : decode cX8_message 4 = .ok (.iload_n 1, 1) := by decide +kernel
theorem dX8_message_5 : decode cX8_message 5 = .ok (.aload_n 0, 1) := by decide +kernel
theorem dX8_message_6 : decode cX8_message 6 = .ok (.getfield 19, 3) := by decide +kernel
theorem dX8_message_9 : decode cX8_message 9 = .ok (.getfield 96, 3) := by decide +kernel
theorem dX8_message_12 : decode cX8_message 12 = .ok (.getfield 100, 3) := by decide +kernel
theorem dX8_message_15 : decode cX8_message 15 = .ok (.if_icmp .lt 13, 3) := by decide +kernel
theorem dX8_message_18 : decode cX8_message 18 = .ok (.new 105, 3) := by decide +kernel
theorem dX8_message_21 : decode cX8_message 21 = .ok (.dup, 1) := by decide +kernel
theorem dX8_message_22 : decode cX8_message 22 = .ok (.ldc 107, 2) := by decide +kernel
theorem dX8_message_24 : decode cX8_message 24 = .ok (.invokespecial 109, 3) := by decide +kernel
theorem dX8_message_27 : decode cX8_message 27 = .ok (.athrow, 1) := by decide +kernel
theorem dX8_message_28 : decode cX8_message 28 = .ok (.aload_n 0, 1) := by decide +kernel
theorem dX8_message_29 : decode cX8_message 29 = .ok (.iload_n 2, 1) := by decide +kernel
theorem dX8_message_30 : decode cX8_message 30 = .ok (.iconst 5, 1) := by decide +kernel
theorem dX8_message_31 : decode cX8_message 31 = .ok (.invokevirtual 74, 3) := by decide +kernel
theorem dX8_message_34 : decode cX8_message 34 = .ok (.aload_n 0, 1) := by decide +kernel
theorem dX8_message_35 : decode cX8_message 35 = .ok (.getfield 19, 3) := by decide +kernel
theorem dX8_message_38 : decode cX8_message 38 = .ok (.iload_n 1, 1) := by decide +kernel
theorem dX8_message_39 : decode cX8_message 39 = .ok (.iload_n 2, 1) := by decide +kernel
theorem dX8_message_40 : decode cX8_message 40 = .ok (.invokevirtual 110, 3) := by decide +kernel
theorem dX8_message_43 : decode cX8_message 43 = .ok (.ireturn, 1) := by decide +kernel
theorem dX8_proposal_0 : decode cX8_proposal 0 = .ok (.aload_n 0, 1) := by decide +kernel
theorem dX8_proposal_1 : decode cX8_proposal 1 = .ok (.getfield 19, 3) := by decide +kernel
theorem dX8_proposal_4 : decode cX8_proposal 4 = .ok (.getfield 113, 3) := by decide +kernel
theorem dX8_proposal_7 : decode cX8_proposal 7 = .ok (.ifCond .ne 13, 3) := by decide +kernel
theorem dX8_proposal_10 : decode cX8_proposal 10 = .ok (.new 105, 3) := by decide +kernel
theorem dX8_proposal_13 : decode cX8_proposal 13 = .ok (.dup, 1) := by decide +kernel
theorem dX8_proposal_14 : decode cX8_proposal 14 = .ok (.ldc 116, 2) := by decide +kernel
theorem dX8_proposal_16 : decode cX8_proposal 16 = .ok (.invokespecial 109, 3) := by decide +kernel
theorem dX8_proposal_19 : decode cX8_proposal 19 = .ok (.athrow, 1) := by decide +kernel
theorem dX8_proposal_20 : decode cX8_proposal 20 = .ok (.aload_n 0, 1) := by decide +kernel
theorem dX8_proposal_21 : decode cX8_proposal 21 = .ok (.iload_n 1, 1) := by decide +kernel
theorem dX8_proposal_22 : decode cX8_proposal 22 = .ok (.iconst 5, 1) := by decide +kernel
theorem dX8_proposal_23 : decode cX8_proposal 23 = .ok (.invokevirtual 74, 3) := by decide +kernel
theorem dX8_proposal_26 : decode cX8_proposal 26 = .ok (.aload_n 0, 1) := by decide +kernel
theorem dX8_proposal_27 : decode cX8_proposal 27 = .ok (.getfield 19, 3) := by decide +kernel
theorem dX8_proposal_30 : decode cX8_proposal 30 = .ok (.getfield 118, 3) := by decide +kernel
theorem dX8_proposal_33 : decode cX8_proposal 33 = .ok (.iload_n 1, 1) := by decide +kernel
theorem dX8_proposal_34 : decode cX8_proposal 34 = .ok (.invokevirtual 122, 3) := by decide +kernel
theorem dX8_proposal_37 : decode cX8_proposal 37 = .ok (.ireturn, 1) := by decide +kernel
theorem dX8_spread_0 : decode cX8_spread 0 = .ok (.aload_n 0, 1) := by decide +kernel
theorem dX8_spread_1 : decode cX8_spread 1 = .ok (.getfield 19, 3) := by decide +kernel
theorem dX8_spread_4 : decode cX8_spread 4 = .ok (.getfield 118, 3) := by decide +kernel
theorem dX8_spread_7 : decode cX8_spread 7 = .ok (.invokevirtual 127, 3) := by decide +kernel
theorem dX8_spread_10 : decode cX8_spread 10 = .ok (.ireturn, 1) := by decide +kernel
theorem dX8_foretold_0 : decode cX8_foretold 0 = .ok (.aload_n 0, 1) := by decide +kernel
theorem dX8_foretold_1 : decode cX8_foretold 1 = .ok (.iload_n 1, 1) := by decide +kernel
theorem dX8_foretold_2 : decode cX8_foretold 2 = .ok (.iconst 4, 1) := by decide +kernel
theorem dX8_foretold_3 : decode cX8_foretold 3 = .ok (.invokevirtual 74, 3) := by decide +kernel
theorem dX8_foretold_6 : decode cX8_foretold 6 = .ok (.aload_n 0, 1) := by decide +kernel
theorem dX8_foretold_7 : decode cX8_foretold 7 = .ok (.getfield 23, 3) := by decide +kernel
theorem dX8_foretold_10 : decode cX8_foretold 10 = .ok (.aload_n 0, 1) := by decide +kernel
theorem dX8_foretold_11 : decode cX8_foretold 11 = .ok (.getfield 19, 3) := by decide +kernel
theorem dX8_foretold_14 : decode cX8_foretold 14 = .ok (.invokevirtual 131, 3) := by decide +kernel
theorem dX8_foretold_17 : decode cX8_foretold 17 = .ok (.aload_n 0, 1) := by decide +kernel
theorem dX8_foretold_18 : decode cX8_foretold 18 = .ok (.getfield 23, 3) := by decide +kernel
theorem dX8_foretold_21 : decode cX8_foretold 21 = .ok (.iconst 0, 1) := by decide +kernel
theorem dX8_foretold_22 : decode cX8_foretold 22 = .ok (.invokevirtual 135, 3) := by decide +kernel
theorem dX8_foretold_25 : decode cX8_foretold 25 = .ok (.istore_n 2, 1) := by decide +kernel
theorem dX8_foretold_26 : decode cX8_foretold 26 = .ok (.iload_n 1, 1) := by decide +kernel
theorem dX8_foretold_27 : decode cX8_foretold 27 = .ok (.tableswitch 75 0 3 #[29, 31, 56, 67], 29) := by decide +kernel
theorem dX8_foretold_56 : decode cX8_foretold 56 = .ok (.iload_n 2, 1) := by decide +kernel
theorem dX8_foretold_57 : decode cX8_foretold 57 = .ok (.ireturn, 1) := by decide +kernel
theorem dX8_foretold_58 : decode cX8_foretold 58 = .ok (.aload_n 0, 1) := by decide +kernel
theorem dX8_foretold_59 : decode cX8_foretold 59 = .ok (.getfield 23, 3) := by decide +kernel
theorem dX8_foretold_62 : decode cX8_foretold 62 = .ok (.getfield 113, 3) := by decide +kernel
theorem dX8_foretold_65 : decode cX8_foretold 65 = .ok (.ifCond .ne 7, 3) := by decide +kernel
theorem dX8_foretold_68 : decode cX8_foretold 68 = .ok (.iconst (-1), 1) := by decide +kernel
theorem dX8_foretold_69 : decode cX8_foretold 69 = .ok (.goto 13, 3) := by decide +kernel
theorem dX8_foretold_72 : decode cX8_foretold 72 = .ok (.aload_n 0, 1) := by decide +kernel
theorem dX8_foretold_73 : decode cX8_foretold 73 = .ok (.getfield 23, 3) := by decide +kernel
theorem dX8_foretold_76 : decode cX8_foretold 76 = .ok (.getfield 118, 3) := by decide +kernel
theorem dX8_foretold_79 : decode cX8_foretold 79 = .ok (.getfield 139, 3) := by decide +kernel
theorem dX8_foretold_82 : decode cX8_foretold 82 = .ok (.ireturn, 1) := by decide +kernel
theorem dX8_foretold_83 : decode cX8_foretold 83 = .ok (.aload_n 0, 1) := by decide +kernel
theorem dX8_foretold_84 : decode cX8_foretold 84 = .ok (.getfield 23, 3) := by decide +kernel
theorem dX8_foretold_87 : decode cX8_foretold 87 = .ok (.getfield 118, 3) := by decide +kernel
theorem dX8_foretold_90 : decode cX8_foretold 90 = .ok (.invokevirtual 127, 3) := by decide +kernel
theorem dX8_foretold_93 : decode cX8_foretold 93 = .ok (.ireturn, 1) := by decide +kernel
theorem dX8_foretold_94 : decode cX8_foretold 94 = .ok (.aload_n 0, 1) := by decide +kernel
theorem dX8_foretold_95 : decode cX8_foretold 95 = .ok (.getfield 23, 3) := by decide +kernel
theorem dX8_foretold_98 : decode cX8_foretold 98 = .ok (.invokevirtual 142, 3) := by decide +kernel
theorem dX8_foretold_101 : decode cX8_foretold 101 = .ok (.ireturn, 1) := by decide +kernel
theorem dX8_foretold_102 : decode cX8_foretold 102 = .ok (.aload_n 0, 1) := by decide +kernel
theorem dX8_foretold_103 : decode cX8_foretold 103 = .ok (.getfield 23, 3) := by decide +kernel
theorem dX8_foretold_106 : decode cX8_foretold 106 = .ok (.getfield 145, 3) := by decide +kernel
theorem dX8_foretold_109 : decode cX8_foretold 109 = .ok (.aload_n 0, 1) := by decide +kernel
theorem dX8_foretold_110 : decode cX8_foretold 110 = .ok (.getfield 19, 3) := by decide +kernel
theorem dX8_foretold_113 : decode cX8_foretold 113 = .ok (.getfield 145, 3) := by decide +kernel
theorem dX8_foretold_116 : decode cX8_foretold 116 = .ok (.isub, 1) := by decide +kernel
theorem dX8_foretold_117 : decode cX8_foretold 117 = .ok (.ireturn, 1) := by decide +kernel
theorem dX8_safest_0 : decode cX8_safest 0 = .ok (.aload_n 0, 1) := by decide +kernel
theorem dX8_safest_1 : decode cX8_safest 1 = .ok (.getfield 19, 3) := by decide +kernel
theorem dX8_safest_4 : decode cX8_safest 4 = .ok (.invokevirtual 148, 3) := by decide +kernel
theorem dX8_safest_7 : decode cX8_safest 7 = .ok (.ifCond .ne 5, 3) := by decide +kernel
theorem dX8_safest_10 : decode cX8_safest 10 = .ok (.iconst (-1), 1) := by decide +kernel
theorem dX8_safest_11 : decode cX8_safest 11 = .ok (.ireturn, 1) := by decide +kernel
theorem dX8_safest_12 : decode cX8_safest 12 = .ok (.iconst 1, 1) := by decide +kernel
theorem dX8_safest_13 : decode cX8_safest 13 = .ok (.istore_n 1, 1) := by decide +kernel
theorem dX8_safest_14 : decode cX8_safest 14 = .ok (.iload_n 1, 1) := by decide +kernel
theorem dX8_safest_15 : decode cX8_safest 15 = .ok (.bipush 60, 2) := by decide +kernel
theorem dX8_safest_17 : decode cX8_safest 17 = .ok (.if_icmp .gt 71, 3) := by decide +kernel
theorem dX8_safest_20 : decode cX8_safest 20 = .ok (.aload_n 0, 1) := by decide +kernel
theorem dX8_safest_21 : decode cX8_safest 21 = .ok (.getfield 23, 3) := by decide +kernel
theorem dX8_safest_24 : decode cX8_safest 24 = .ok (.aload_n 0, 1) := by decide +kernel
theorem dX8_safest_25 : decode cX8_safest 25 = .ok (.getfield 19, 3) := by decide +kernel
theorem dX8_safest_28 : decode cX8_safest 28 = .ok (.invokevirtual 131, 3) := by decide +kernel
theorem dX8_safest_31 : decode cX8_safest 31 = .ok (.aload_n 0, 1) := by decide +kernel
theorem dX8_safest_32 : decode cX8_safest 32 = .ok (.getfield 23, 3) := by decide +kernel
theorem dX8_safest_35 : decode cX8_safest 35 = .ok (.iconst 1, 1) := by decide +kernel
theorem dX8_safest_36 : decode cX8_safest 36 = .ok (.iload_n 1, 1) := by decide +kernel
theorem dX8_safest_37 : decode cX8_safest 37 = .ok (.invokevirtual 152, 3) := by decide +kernel
theorem dX8_safest_40 : decode cX8_safest 40 = .ok (.aload_n 0, 1) := by decide +kernel
theorem dX8_safest_41 : decode cX8_safest 41 = .ok (.getfield 23, 3) := by decide +kernel
theorem dX8_safest_44 : decode cX8_safest 44 = .ok (.iconst 1, 1) := by decide +kernel
theorem dX8_safest_45 : decode cX8_safest 45 = .ok (.invokevirtual 135, 3) := by decide +kernel
theorem dX8_safest_48 : decode cX8_safest 48 = .ok (.pop, 1) := by decide +kernel
theorem dX8_safest_49 : decode cX8_safest 49 = .ok (.aload_n 0, 1) := by decide +kernel
theorem dX8_safest_50 : decode cX8_safest 50 = .ok (.getfield 23, 3) := by decide +kernel
theorem dX8_safest_53 : decode cX8_safest 53 = .ok (.getfield 118, 3) := by decide +kernel
theorem dX8_safest_56 : decode cX8_safest 56 = .ok (.getfield 139, 3) := by decide +kernel
theorem dX8_safest_59 : decode cX8_safest 59 = .ok (.iconst 1, 1) := by decide +kernel
theorem dX8_safest_60 : decode cX8_safest 60 = .ok (.if_icmp .ne 22, 3) := by decide +kernel
theorem dX8_safest_63 : decode cX8_safest 63 = .ok (.aload_n 0, 1) := by decide +kernel
theorem dX8_safest_64 : decode cX8_safest 64 = .ok (.getfield 23, 3) := by decide +kernel
theorem dX8_safest_67 : decode cX8_safest 67 = .ok (.getfield 145, 3) := by decide +kernel
theorem dX8_safest_70 : decode cX8_safest 70 = .ok (.aload_n 0, 1) := by decide +kernel
theorem dX8_safest_71 : decode cX8_safest 71 = .ok (.getfield 19, 3) := by decide +kernel
theorem dX8_safest_74 : decode cX8_safest 74 = .ok (.getfield 145, 3) := by decide +kernel
theorem dX8_safest_77 : decode cX8_safest 77 = .ok (.if_icmp .ne 5, 3) := by decide +kernel
theorem dX8_safest_80 : decode cX8_safest 80 = .ok (.iload_n 1, 1) := by decide +kernel
theorem dX8_safest_81 : decode cX8_safest 81 = .ok (.ireturn, 1) := by decide +kernel
theorem dX8_safest_82 : decode cX8_safest 82 = .ok (.iinc 1 1, 3) := by decide +kernel
theorem dX8_safest_85 : decode cX8_safest 85 = .ok (.goto (-71), 3) := by decide +kernel
theorem dX8_safest_88 : decode cX8_safest 88 = .ok (.iconst (-1), 1) := by decide +kernel
theorem dX8_safest_89 : decode cX8_safest 89 = .ok (.ireturn, 1) := by decide +kernel
theorem dX8_meanError_0 : decode cX8_meanError 0 = .ok (.lconst 0, 1) := by decide +kernel
theorem dX8_meanError_1 : decode cX8_meanError 1 = .ok (.lstore_n 1, 1) := by decide +kernel
theorem dX8_meanError_2 : decode cX8_meanError 2 = .ok (.iconst 0, 1) := by decide +kernel
theorem dX8_meanError_3 : decode cX8_meanError 3 = .ok (.istore_n 3, 1) := by decide +kernel
theorem dX8_meanError_4 : decode cX8_meanError 4 = .ok (.iload_n 3, 1) := by decide +kernel
theorem dX8_meanError_5 : decode cX8_meanError 5 = .ok (.aload_n 0, 1) := by decide +kernel
theorem dX8_meanError_6 : decode cX8_meanError 6 = .ok (.getfield 19, 3) := by decide +kernel
theorem dX8_meanError_9 : decode cX8_meanError 9 = .ok (.getfield 155, 3) := by decide +kernel
theorem dX8_meanError_12 : decode cX8_meanError 12 = .ok (.getfield 69, 3) := by decide +kernel
theorem dX8_meanError_15 : decode cX8_meanError 15 = .ok (.if_icmp .ge 38, 3) := by decide +kernel
theorem dX8_meanError_18 : decode cX8_meanError 18 = .ok (.aload_n 0, 1) := by decide +kernel
theorem dX8_meanError_19 : decode cX8_meanError 19 = .ok (.getfield 19, 3) := by decide +kernel
theorem dX8_meanError_22 : decode cX8_meanError 22 = .ok (.iload_n 3, 1) := by decide +kernel
theorem dX8_meanError_23 : decode cX8_meanError 23 = .ok (.invokevirtual 159, 3) := by decide +kernel
theorem dX8_meanError_26 : decode cX8_meanError 26 = .ok (.getfield 163, 3) := by decide +kernel
theorem dX8_meanError_29 : decode cX8_meanError 29 = .ok (.ifCond .eq 18, 3) := by decide +kernel
theorem dX8_meanError_32 : decode cX8_meanError 32 = .ok (.lload_n 1, 1) := by decide +kernel
theorem dX8_meanError_33 : decode cX8_meanError 33 = .ok (.aload_n 0, 1) := by decide +kernel
theorem dX8_meanError_34 : decode cX8_meanError 34 = .ok (.getfield 19, 3) := by decide +kernel
theorem dX8_meanError_37 : decode cX8_meanError 37 = .ok (.iload_n 3, 1) := by decide +kernel
theorem dX8_meanError_38 : decode cX8_meanError 38 = .ok (.invokevirtual 169, 3) := by decide +kernel
theorem dX8_meanError_41 : decode cX8_meanError 41 = .ok (.invokestatic 172, 3) := by decide +kernel
theorem dX8_meanError_44 : decode cX8_meanError 44 = .ok (.i2l, 1) := by decide +kernel
theorem dX8_meanError_45 : decode cX8_meanError 45 = .ok (.ladd, 1) := by decide +kernel
theorem dX8_meanError_46 : decode cX8_meanError 46 = .ok (.lstore_n 1, 1) := by decide +kernel
theorem dX8_meanError_47 : decode cX8_meanError 47 = .ok (.iinc 3 1, 3) := by decide +kernel
theorem dX8_meanError_50 : decode cX8_meanError 50 = .ok (.goto (-46), 3) := by decide +kernel
theorem dX8_meanError_53 : decode cX8_meanError 53 = .ok (.aload_n 0, 1) := by decide +kernel
theorem dX8_meanError_54 : decode cX8_meanError 54 = .ok (.getfield 19, 3) := by decide +kernel
theorem dX8_meanError_57 : decode cX8_meanError 57 = .ok (.invokevirtual 177, 3) := by decide +kernel
theorem dX8_meanError_60 : decode cX8_meanError 60 = .ok (.istore_n 3, 1) := by decide +kernel
theorem dX8_meanError_61 : decode cX8_meanError 61 = .ok (.iload_n 3, 1) := by decide +kernel
theorem dX8_meanError_62 : decode cX8_meanError 62 = .ok (.ifCond .ne 7, 3) := by decide +kernel
theorem dX8_meanError_65 : decode cX8_meanError 65 = .ok (.dconst 0, 1) := by decide +kernel
theorem dX8_meanError_66 : decode cX8_meanError 66 = .ok (.goto 8, 3) := by decide +kernel
theorem dX8_meanError_69 : decode cX8_meanError 69 = .ok (.lload_n 1, 1) := by decide +kernel
theorem dX8_meanError_70 : decode cX8_meanError 70 = .ok (.l2d, 1) := by decide +kernel
theorem dX8_meanError_71 : decode cX8_meanError 71 = .ok (.iload_n 3, 1) := by decide +kernel
theorem dX8_meanError_72 : decode cX8_meanError 72 = .ok (.i2d, 1) := by decide +kernel
theorem dX8_meanError_73 : decode cX8_meanError 73 = .ok (.ddiv, 1) := by decide +kernel
theorem dX8_meanError_74 : decode cX8_meanError 74 = .ok (.dreturn, 1) := by decide +kernel
theorem dX8_propose_0 : decode cX8_propose 0 = .ok (.iload_n 1, 1) := by decide +kernel
theorem dX8_propose_1 : decode cX8_propose 1 = .ok (.ifCond .lt 9, 3) := by decide +kernel
theorem dX8_propose_4 : decode cX8_propose 4 = .ok (.iload_n 1, 1) := by decide +kernel
theorem dX8_propose_5 : decode cX8_propose 5 = .ok (.bipush 99, 2) := by decide +kernel
theorem dX8_propose_7 : decode cX8_propose 7 = .ok (.if_icmp .le 13, 3) := by decide +kernel
theorem dX8_propose_10 : decode cX8_propose 10 = .ok (.new 45, 3) := by decide +kernel
theorem dX8_propose_13 : decode cX8_propose 13 = .ok (.dup, 1) := by decide +kernel
theorem dX8_propose_14 : decode cX8_propose 14 = .ok (.ldc 180, 2) := by decide +kernel
theorem dX8_propose_16 : decode cX8_propose 16 = .ok (.invokespecial 49, 3) := by decide +kernel
theorem dX8_propose_19 : decode cX8_propose 19 = .ok (.athrow, 1) := by decide +kernel
theorem dX8_propose_20 : decode cX8_propose 20 = .ok (.aload_n 0, 1) := by decide +kernel
theorem dX8_propose_21 : decode cX8_propose 21 = .ok (.getfield 19, 3) := by decide +kernel
theorem dX8_propose_24 : decode cX8_propose 24 = .ok (.invokevirtual 148, 3) := by decide +kernel
theorem dX8_propose_27 : decode cX8_propose 27 = .ok (.ifCond .ne 13, 3) := by decide +kernel
theorem dX8_propose_30 : decode cX8_propose 30 = .ok (.new 182, 3) := by decide +kernel
theorem dX8_propose_33 : decode cX8_propose 33 = .ok (.dup, 1) := by decide +kernel
theorem dX8_propose_34 : decode cX8_propose 34 = .ok (.ldc 184, 2) := by decide +kernel
theorem dX8_propose_36 : decode cX8_propose 36 = .ok (.invokespecial 186, 3) := by decide +kernel
theorem dX8_propose_39 : decode cX8_propose 39 = .ok (.athrow, 1) := by decide +kernel
theorem dX8_propose_40 : decode cX8_propose 40 = .ok (.aload_n 0, 1) := by decide +kernel
theorem dX8_propose_41 : decode cX8_propose 41 = .ok (.invokevirtual 62, 3) := by decide +kernel
theorem dX8_propose_44 : decode cX8_propose 44 = .ok (.aload_n 0, 1) := by decide +kernel
theorem dX8_propose_45 : decode cX8_propose 45 = .ok (.getfield 19, 3) := by decide +kernel
theorem dX8_propose_48 : decode cX8_propose 48 = .ok (.iload_n 1, 1) := by decide +kernel
theorem dX8_propose_49 : decode cX8_propose 49 = .ok (.aload_n 0, 1) := by decide +kernel
theorem dX8_propose_50 : decode cX8_propose 50 = .ok (.getfield 19, 3) := by decide +kernel
theorem dX8_propose_53 : decode cX8_propose 53 = .ok (.iload_n 1, 1) := by decide +kernel
theorem dX8_propose_54 : decode cX8_propose 54 = .ok (.invokevirtual 187, 3) := by decide +kernel
theorem dX8_propose_57 : decode cX8_propose 57 = .ok (.invokevirtual 152, 3) := by decide +kernel
theorem dX8_propose_60 : decode cX8_propose 60 = .ok (.aload_n 0, 1) := by decide +kernel
theorem dX8_propose_61 : decode cX8_propose 61 = .ok (.getfield 19, 3) := by decide +kernel
theorem dX8_propose_64 : decode cX8_propose 64 = .ok (.getfield 118, 3) := by decide +kernel
theorem dX8_propose_67 : decode cX8_propose 67 = .ok (.getfield 190, 3) := by decide +kernel
theorem dX8_propose_70 : decode cX8_propose 70 = .ok (.ireturn, 1) := by decide +kernel
theorem dX8_ask_0 : decode cX8_ask 0 = .ok (.aload_n 0, 1) := by decide +kernel
theorem dX8_ask_1 : decode cX8_ask 1 = .ok (.iload_n 1, 1) := by decide +kernel
theorem dX8_ask_2 : decode cX8_ask 2 = .ok (.invokevirtual 82, 3) := by decide +kernel
theorem dX8_ask_5 : decode cX8_ask 5 = .ok (.aload_n 0, 1) := by decide +kernel
theorem dX8_ask_6 : decode cX8_ask 6 = .ok (.getfield 19, 3) := by decide +kernel
theorem dX8_ask_9 : decode cX8_ask 9 = .ok (.iload_n 1, 1) := by decide +kernel
theorem dX8_ask_10 : decode cX8_ask 10 = .ok (.invokevirtual 159, 3) := by decide +kernel
theorem dX8_ask_13 : decode cX8_ask 13 = .ok (.getfield 163, 3) := by decide +kernel
theorem dX8_ask_16 : decode cX8_ask 16 = .ok (.ifCond .eq 14, 3) := by decide +kernel
theorem dX8_ask_19 : decode cX8_ask 19 = .ok (.iload_n 1, 1) := by decide +kernel
theorem dX8_ask_20 : decode cX8_ask 20 = .ok (.aload_n 0, 1) := by decide +kernel
theorem dX8_ask_21 : decode cX8_ask 21 = .ok (.getfield 19, 3) := by decide +kernel
theorem dX8_ask_24 : decode cX8_ask 24 = .ok (.getfield 193, 3) := by decide +kernel
theorem dX8_ask_27 : decode cX8_ask 27 = .ok (.if_icmp .ne 13, 3) := by decide +kernel
theorem dX8_ask_30 : decode cX8_ask 30 = .ok (.new 182, 3) := by decide +kernel
theorem dX8_ask_33 : decode cX8_ask 33 = .ok (.dup, 1) := by decide +kernel
theorem dX8_ask_34 : decode cX8_ask 34 = .ok (.ldc 196, 2) := by decide +kernel
theorem dX8_ask_36 : decode cX8_ask 36 = .ok (.invokespecial 186, 3) := by decide +kernel
theorem dX8_ask_39 : decode cX8_ask 39 = .ok (.athrow, 1) := by decide +kernel
theorem dX8_ask_40 : decode cX8_ask 40 = .ok (.aload_n 0, 1) := by decide +kernel
theorem dX8_ask_41 : decode cX8_ask 41 = .ok (.invokevirtual 62, 3) := by decide +kernel
theorem dX8_ask_44 : decode cX8_ask 44 = .ok (.aload_n 0, 1) := by decide +kernel
theorem dX8_ask_45 : decode cX8_ask 45 = .ok (.getfield 19, 3) := by decide +kernel
theorem dX8_ask_48 : decode cX8_ask 48 = .ok (.iload_n 1, 1) := by decide +kernel
theorem dX8_ask_49 : decode cX8_ask 49 = .ok (.invokevirtual 198, 3) := by decide +kernel
theorem dX8_ask_52 : decode cX8_ask 52 = .ok (.ireturn, 1) := by decide +kernel
theorem dX8_pass_0 : decode cX8_pass 0 = .ok (.iload_n 1, 1) := by decide +kernel
theorem dX8_pass_1 : decode cX8_pass 1 = .ok (.iconst 1, 1) := by decide +kernel
theorem dX8_pass_2 : decode cX8_pass 2 = .ok (.if_icmp .lt 9, 3) := by decide +kernel
theorem dX8_pass_5 : decode cX8_pass 5 = .ok (.iload_n 1, 1) := by decide +kernel
theorem dX8_pass_6 : decode cX8_pass 6 = .ok (.bipush 50, 2) := by decide +kernel
theorem dX8_pass_8 : decode cX8_pass 8 = .ok (.if_icmp .le 13, 3) := by decide +kernel
theorem dX8_pass_11 : decode cX8_pass 11 = .ok (.new 45, 3) := by decide +kernel
theorem dX8_pass_14 : decode cX8_pass 14 = .ok (.dup, 1) := by decide +kernel
theorem dX8_pass_15 : decode cX8_pass 15 = .ok (.ldc 201, 2) := by decide +kernel
theorem dX8_pass_17 : decode cX8_pass 17 = .ok (.invokespecial 49, 3) := by decide +kernel
theorem dX8_pass_20 : decode cX8_pass 20 = .ok (.athrow, 1) := by decide +kernel
theorem dX8_pass_21 : decode cX8_pass 21 = .ok (.aload_n 0, 1) := by decide +kernel
theorem dX8_pass_22 : decode cX8_pass 22 = .ok (.invokevirtual 62, 3) := by decide +kernel
theorem dX8_pass_25 : decode cX8_pass 25 = .ok (.aload_n 0, 1) := by decide +kernel
theorem dX8_pass_26 : decode cX8_pass 26 = .ok (.getfield 19, 3) := by decide +kernel
theorem dX8_pass_29 : decode cX8_pass 29 = .ok (.getfield 203, 3) := by decide +kernel
theorem dX8_pass_32 : decode cX8_pass 32 = .ok (.istore_n 2, 1) := by decide +kernel
theorem dX8_pass_33 : decode cX8_pass 33 = .ok (.iconst 0, 1) := by decide +kernel
theorem dX8_pass_34 : decode cX8_pass 34 = .ok (.istore_n 3, 1) := by decide +kernel
theorem dX8_pass_35 : decode cX8_pass 35 = .ok (.iload_n 3, 1) := by decide +kernel
theorem dX8_pass_36 : decode cX8_pass 36 = .ok (.iload_n 1, 1) := by decide +kernel
theorem dX8_pass_37 : decode cX8_pass 37 = .ok (.if_icmp .ge 16, 3) := by decide +kernel
theorem dX8_pass_40 : decode cX8_pass 40 = .ok (.aload_n 0, 1) := by decide +kernel
theorem dX8_pass_41 : decode cX8_pass 41 = .ok (.getfield 19, 3) := by decide +kernel
theorem dX8_pass_44 : decode cX8_pass 44 = .ok (.invokevirtual 206, 3) := by decide +kernel
theorem dX8_pass_47 : decode cX8_pass 47 = .ok (.iinc 3 1, 3) := by decide +kernel
theorem dX8_pass_50 : decode cX8_pass 50 = .ok (.goto (-15), 3) := by decide +kernel
theorem dX8_pass_53 : decode cX8_pass 53 = .ok (.aload_n 0, 1) := by decide +kernel
theorem dX8_pass_54 : decode cX8_pass 54 = .ok (.getfield 19, 3) := by decide +kernel
theorem dX8_pass_57 : decode cX8_pass 57 = .ok (.getfield 203, 3) := by decide +kernel
theorem dX8_pass_60 : decode cX8_pass 60 = .ok (.iload_n 2, 1) := by decide +kernel
theorem dX8_pass_61 : decode cX8_pass 61 = .ok (.isub, 1) := by decide +kernel
theorem dX8_pass_62 : decode cX8_pass 62 = .ok (.ireturn, 1) := by decide +kernel
theorem dX8_power_0 : decode cX8_power 0 = .ok (.aload_n 0, 1) := by decide +kernel
theorem dX8_power_1 : decode cX8_power 1 = .ok (.iload_n 1, 1) := by decide +kernel
theorem dX8_power_2 : decode cX8_power 2 = .ok (.invokevirtual 82, 3) := by decide +kernel
theorem dX8_power_5 : decode cX8_power 5 = .ok (.aload_n 0, 1) := by decide +kernel
theorem dX8_power_6 : decode cX8_power 6 = .ok (.invokevirtual 62, 3) := by decide +kernel
theorem dX8_power_9 : decode cX8_power 9 = .ok (.aload_n 0, 1) := by decide +kernel
theorem dX8_power_10 : decode cX8_power 10 = .ok (.getfield 19, 3) := by decide +kernel
theorem dX8_power_13 : decode cX8_power 13 = .ok (.iload_n 1, 1) := by decide +kernel
theorem dX8_power_14 : decode cX8_power 14 = .ok (.invokevirtual 159, 3) := by decide +kernel
theorem dX8_power_17 : decode cX8_power 17 = .ok (.iload_n 2, 1) := by decide +kernel
theorem dX8_power_18 : decode cX8_power 18 = .ok (.invokevirtual 209, 3) := by decide +kernel
theorem dX8_power_21 : decode cX8_power 21 = .ok (.ireturn, 1) := by decide +kernel
theorem dX8_cut_0 : decode cX8_cut 0 = .ok (.aload_n 0, 1) := by decide +kernel
theorem dX8_cut_1 : decode cX8_cut 1 = .ok (.iload_n 1, 1) := by decide +kernel
theorem dX8_cut_2 : decode cX8_cut 2 = .ok (.invokevirtual 82, 3) := by decide +kernel
theorem dX8_cut_5 : decode cX8_cut 5 = .ok (.aload_n 0, 1) := by decide +kernel
theorem dX8_cut_6 : decode cX8_cut 6 = .ok (.iload_n 2, 1) := by decide +kernel
theorem dX8_cut_7 : decode cX8_cut 7 = .ok (.invokevirtual 82, 3) := by decide +kernel
theorem dX8_cut_10 : decode cX8_cut 10 = .ok (.aload_n 0, 1) := by decide +kernel
theorem dX8_cut_11 : decode cX8_cut 11 = .ok (.getfield 19, 3) := by decide +kernel
theorem dX8_cut_14 : decode cX8_cut 14 = .ok (.iload_n 1, 1) := by decide +kernel
theorem dX8_cut_15 : decode cX8_cut 15 = .ok (.iload_n 2, 1) := by decide +kernel
theorem dX8_cut_16 : decode cX8_cut 16 = .ok (.invokevirtual 93, 3) := by decide +kernel
theorem dX8_cut_19 : decode cX8_cut 19 = .ok (.ifCond .ne 13, 3) := by decide +kernel
theorem dX8_cut_22 : decode cX8_cut 22 = .ok (.new 182, 3) := by decide +kernel
theorem dX8_cut_25 : decode cX8_cut 25 = .ok (.dup, 1) := by decide +kernel
theorem dX8_cut_26 : decode cX8_cut 26 = .ok (.ldc 213, 2) := by decide +kernel
theorem dX8_cut_28 : decode cX8_cut 28 = .ok (.invokespecial 186, 3) := by decide +kernel
theorem dX8_cut_31 : decode cX8_cut 31 = .ok (.athrow, 1) := by decide +kernel
theorem dX8_cut_32 : decode cX8_cut 32 = .ok (.aload_n 0, 1) := by decide +kernel
theorem dX8_cut_33 : decode cX8_cut 33 = .ok (.invokevirtual 62, 3) := by decide +kernel
theorem dX8_cut_36 : decode cX8_cut 36 = .ok (.aload_n 0, 1) := by decide +kernel
theorem dX8_cut_37 : decode cX8_cut 37 = .ok (.getfield 19, 3) := by decide +kernel
theorem dX8_cut_40 : decode cX8_cut 40 = .ok (.iload_n 1, 1) := by decide +kernel
theorem dX8_cut_41 : decode cX8_cut 41 = .ok (.iload_n 2, 1) := by decide +kernel
theorem dX8_cut_42 : decode cX8_cut 42 = .ok (.invokevirtual 89, 3) := by decide +kernel
theorem dX8_cut_45 : decode cX8_cut 45 = .ok (.istore 4, 2) := by decide +kernel
theorem dX8_cut_47 : decode cX8_cut 47 = .ok (.aload_n 0, 1) := by decide +kernel
theorem dX8_cut_48 : decode cX8_cut 48 = .ok (.getfield 19, 3) := by decide +kernel
theorem dX8_cut_51 : decode cX8_cut 51 = .ok (.iload_n 1, 1) := by decide +kernel
theorem dX8_cut_52 : decode cX8_cut 52 = .ok (.iload_n 2, 1) := by decide +kernel
theorem dX8_cut_53 : decode cX8_cut 53 = .ok (.iload_n 3, 1) := by decide +kernel
theorem dX8_cut_54 : decode cX8_cut 54 = .ok (.invokevirtual 215, 3) := by decide +kernel
theorem dX8_cut_57 : decode cX8_cut 57 = .ok (.iload 4, 2) := by decide +kernel
theorem dX8_cut_59 : decode cX8_cut 59 = .ok (.ireturn, 1) := by decide +kernel
theorem dX8_lead_0 : decode cX8_lead 0 = .ok (.aload_n 0, 1) := by decide +kernel
theorem dX8_lead_1 : decode cX8_lead 1 = .ok (.iload_n 1, 1) := by decide +kernel
theorem dX8_lead_2 : decode cX8_lead 2 = .ok (.invokevirtual 82, 3) := by decide +kernel
theorem dX8_lead_5 : decode cX8_lead 5 = .ok (.aload_n 0, 1) := by decide +kernel
theorem dX8_lead_6 : decode cX8_lead 6 = .ok (.invokevirtual 62, 3) := by decide +kernel
theorem dX8_lead_9 : decode cX8_lead 9 = .ok (.aload_n 0, 1) := by decide +kernel
theorem dX8_lead_10 : decode cX8_lead 10 = .ok (.getfield 19, 3) := by decide +kernel
theorem dX8_lead_13 : decode cX8_lead 13 = .ok (.getfield 193, 3) := by decide +kernel
theorem dX8_lead_16 : decode cX8_lead 16 = .ok (.istore_n 2, 1) := by decide +kernel
theorem dX8_lead_17 : decode cX8_lead 17 = .ok (.aload_n 0, 1) := by decide +kernel
theorem dX8_lead_18 : decode cX8_lead 18 = .ok (.getfield 19, 3) := by decide +kernel
theorem dX8_lead_21 : decode cX8_lead 21 = .ok (.iload_n 1, 1) := by decide +kernel
theorem dX8_lead_22 : decode cX8_lead 22 = .ok (.invokevirtual 219, 3) := by decide +kernel
theorem dX8_lead_25 : decode cX8_lead 25 = .ok (.iload_n 2, 1) := by decide +kernel
theorem dX8_lead_26 : decode cX8_lead 26 = .ok (.ireturn, 1) := by decide +kernel
theorem dX8_undo_0 : decode cX8_undo 0 = .ok (.aload_n 0, 1) := by decide +kernel
theorem dX8_undo_1 : decode cX8_undo 1 = .ok (.getfield 222, 3) := by decide +kernel
theorem dX8_undo_4 : decode cX8_undo 4 = .ok (.ifCond .ne 5, 3) := by decide +kernel
theorem dX8_undo_7 : decode cX8_undo 7 = .ok (.iconst (-1), 1) := by decide +kernel
theorem dX8_undo_8 : decode cX8_undo 8 = .ok (.ireturn, 1) := by decide +kernel
theorem dX8_undo_9 : decode cX8_undo 9 = .ok (.aload_n 0, 1) := by decide +kernel
theorem dX8_undo_10 : decode cX8_undo 10 = .ok (.getfield 19, 3) := by decide +kernel
theorem dX8_undo_13 : decode cX8_undo 13 = .ok (.aload_n 0, 1) := by decide +kernel
theorem dX8_undo_14 : decode cX8_undo 14 = .ok (.getfield 26, 3) := by decide +kernel
theorem dX8_undo_17 : decode cX8_undo 17 = .ok (.aload_n 0, 1) := by decide +kernel
theorem dX8_undo_18 : decode cX8_undo 18 = .ok (.getfield 225, 3) := by decide +kernel
theorem dX8_undo_21 : decode cX8_undo 21 = .ok (.bipush 7, 2) := by decide +kernel
theorem dX8_undo_23 : decode cX8_undo 23 = .ok (.iand, 1) := by decide +kernel
theorem dX8_undo_24 : decode cX8_undo 24 = .ok (.aaload, 1) := by decide +kernel
theorem dX8_undo_25 : decode cX8_undo 25 = .ok (.invokevirtual 131, 3) := by decide +kernel
theorem dX8_undo_28 : decode cX8_undo 28 = .ok (.aload_n 0, 1) := by decide +kernel
theorem dX8_undo_29 : decode cX8_undo 29 = .ok (.aload_n 0, 1) := by decide +kernel
theorem dX8_undo_30 : decode cX8_undo 30 = .ok (.getfield 225, 3) := by decide +kernel
theorem dX8_undo_33 : decode cX8_undo 33 = .ok (.iconst 1, 1) := by decide +kernel
theorem dX8_undo_34 : decode cX8_undo 34 = .ok (.isub, 1) := by decide +kernel
theorem dX8_undo_35 : decode cX8_undo 35 = .ok (.bipush 7, 2) := by decide +kernel
theorem dX8_undo_37 : decode cX8_undo 37 = .ok (.iand, 1) := by decide +kernel
theorem dX8_undo_38 : decode cX8_undo 38 = .ok (.putfield 225, 3) := by decide +kernel
theorem dX8_undo_41 : decode cX8_undo 41 = .ok (.aload_n 0, 1) := by decide +kernel
theorem dX8_undo_42 : decode cX8_undo 42 = .ok (.dup, 1) := by decide +kernel
theorem dX8_undo_43 : decode cX8_undo 43 = .ok (.getfield 222, 3) := by decide +kernel
theorem dX8_undo_46 : decode cX8_undo 46 = .ok (.iconst 1, 1) := by decide +kernel
theorem dX8_undo_47 : decode cX8_undo 47 = .ok (.isub, 1) := by decide +kernel
theorem dX8_undo_48 : decode cX8_undo 48 = .ok (.putfield 222, 3) := by decide +kernel
theorem dX8_undo_51 : decode cX8_undo 51 = .ok (.aload_n 0, 1) := by decide +kernel
theorem dX8_undo_52 : decode cX8_undo 52 = .ok (.getfield 222, 3) := by decide +kernel
theorem dX8_undo_55 : decode cX8_undo 55 = .ok (.ireturn, 1) := by decide +kernel
theorem dX8_checksum_0 : decode cX8_checksum 0 = .ok (.lconst 0, 1) := by decide +kernel
theorem dX8_checksum_1 : decode cX8_checksum 1 = .ok (.lstore_n 1, 1) := by decide +kernel
theorem dX8_checksum_2 : decode cX8_checksum 2 = .ok (.iconst 0, 1) := by decide +kernel
theorem dX8_checksum_3 : decode cX8_checksum 3 = .ok (.istore_n 3, 1) := by decide +kernel
theorem dX8_checksum_4 : decode cX8_checksum 4 = .ok (.iload_n 3, 1) := by decide +kernel
theorem dX8_checksum_5 : decode cX8_checksum 5 = .ok (.bipush 12, 2) := by decide +kernel
theorem dX8_checksum_7 : decode cX8_checksum 7 = .ok (.if_icmp .gt 25, 3) := by decide +kernel
theorem dX8_checksum_10 : decode cX8_checksum 10 = .ok (.ldc2_w 228, 3) := by decide +kernel
theorem dX8_checksum_13 : decode cX8_checksum 13 = .ok (.lload_n 1, 1) := by decide +kernel
theorem dX8_checksum_14 : decode cX8_checksum 14 = .ok (.lmul, 1) := by decide +kernel
theorem dX8_checksum_15 : decode cX8_checksum 15 = .ok (.aload_n 0, 1) := by decide +kernel
theorem dX8_checksum_16 : decode cX8_checksum 16 = .ok (.getfield 19, 3) := by decide +kernel
theorem dX8_checksum_19 : decode cX8_checksum 19 = .ok (.iload_n 3, 1) := by decide +kernel
theorem dX8_checksum_20 : decode cX8_checksum 20 = .ok (.invokevirtual 78, 3) := by decide +kernel
theorem dX8_checksum_23 : decode cX8_checksum 23 = .ok (.i2l, 1) := by decide +kernel
theorem dX8_checksum_24 : decode cX8_checksum 24 = .ok (.ladd, 1) := by decide +kernel
theorem dX8_checksum_25 : decode cX8_checksum 25 = .ok (.lstore_n 1, 1) := by decide +kernel
theorem dX8_checksum_26 : decode cX8_checksum 26 = .ok (.iinc 3 1, 3) := by decide +kernel
theorem dX8_checksum_29 : decode cX8_checksum 29 = .ok (.goto (-25), 3) := by decide +kernel
theorem dX8_checksum_32 : decode cX8_checksum 32 = .ok (.iconst 0, 1) := by decide +kernel
theorem dX8_checksum_33 : decode cX8_checksum 33 = .ok (.istore_n 3, 1) := by decide +kernel
theorem dX8_checksum_34 : decode cX8_checksum 34 = .ok (.iload_n 3, 1) := by decide +kernel
theorem dX8_checksum_35 : decode cX8_checksum 35 = .ok (.aload_n 0, 1) := by decide +kernel
theorem dX8_checksum_36 : decode cX8_checksum 36 = .ok (.getfield 19, 3) := by decide +kernel
theorem dX8_checksum_39 : decode cX8_checksum 39 = .ok (.getfield 155, 3) := by decide +kernel
theorem dX8_checksum_42 : decode cX8_checksum 42 = .ok (.getfield 69, 3) := by decide +kernel
theorem dX8_checksum_45 : decode cX8_checksum 45 = .ok (.if_icmp .ge 43, 3) := by decide +kernel
theorem dX8_checksum_48 : decode cX8_checksum 48 = .ok (.iconst 0, 1) := by decide +kernel
theorem dX8_checksum_49 : decode cX8_checksum 49 = .ok (.istore 4, 2) := by decide +kernel
theorem dX8_checksum_51 : decode cX8_checksum 51 = .ok (.iload 4, 2) := by decide +kernel
theorem dX8_checksum_53 : decode cX8_checksum 53 = .ok (.bipush 9, 2) := by decide +kernel
theorem dX8_checksum_55 : decode cX8_checksum 55 = .ok (.if_icmp .gt 27, 3) := by decide +kernel
theorem dX8_checksum_58 : decode cX8_checksum 58 = .ok (.ldc2_w 228, 3) := by decide +kernel
theorem dX8_checksum_61 : decode cX8_checksum 61 = .ok (.lload_n 1, 1) := by decide +kernel
theorem dX8_checksum_62 : decode cX8_checksum 62 = .ok (.lmul, 1) := by decide +kernel
theorem dX8_checksum_63 : decode cX8_checksum 63 = .ok (.aload_n 0, 1) := by decide +kernel
theorem dX8_checksum_64 : decode cX8_checksum 64 = .ok (.getfield 19, 3) := by decide +kernel
theorem dX8_checksum_67 : decode cX8_checksum 67 = .ok (.iload_n 3, 1) := by decide +kernel
theorem dX8_checksum_68 : decode cX8_checksum 68 = .ok (.iload 4, 2) := by decide +kernel
theorem dX8_checksum_70 : decode cX8_checksum 70 = .ok (.invokevirtual 85, 3) := by decide +kernel
theorem dX8_checksum_73 : decode cX8_checksum 73 = .ok (.i2l, 1) := by decide +kernel
theorem dX8_checksum_74 : decode cX8_checksum 74 = .ok (.ladd, 1) := by decide +kernel
theorem dX8_checksum_75 : decode cX8_checksum 75 = .ok (.lstore_n 1, 1) := by decide +kernel
theorem dX8_checksum_76 : decode cX8_checksum 76 = .ok (.iinc 4 1, 3) := by decide +kernel
theorem dX8_checksum_79 : decode cX8_checksum 79 = .ok (.goto (-28), 3) := by decide +kernel
theorem dX8_checksum_82 : decode cX8_checksum 82 = .ok (.iinc 3 1, 3) := by decide +kernel
theorem dX8_checksum_85 : decode cX8_checksum 85 = .ok (.goto (-51), 3) := by decide +kernel
theorem dX8_checksum_88 : decode cX8_checksum 88 = .ok (.iconst 0, 1) := by decide +kernel
theorem dX8_checksum_89 : decode cX8_checksum 89 = .ok (.istore_n 3, 1) := by decide +kernel
theorem dX8_checksum_90 : decode cX8_checksum 90 = .ok (.iload_n 3, 1) := by decide +kernel
theorem dX8_checksum_91 : decode cX8_checksum 91 = .ok (.aload_n 0, 1) := by decide +kernel
theorem dX8_checksum_92 : decode cX8_checksum 92 = .ok (.getfield 19, 3) := by decide +kernel
theorem dX8_checksum_95 : decode cX8_checksum 95 = .ok (.getfield 96, 3) := by decide +kernel
theorem dX8_checksum_98 : decode cX8_checksum 98 = .ok (.getfield 100, 3) := by decide +kernel
theorem dX8_checksum_101 : decode cX8_checksum 101 = .ok (.if_icmp .ge 42, 3) := by decide +kernel
theorem dX8_checksum_104 : decode cX8_checksum 104 = .ok (.iconst 0, 1) := by decide +kernel
theorem dX8_checksum_105 : decode cX8_checksum 105 = .ok (.istore 4, 2) := by decide +kernel
theorem dX8_checksum_107 : decode cX8_checksum 107 = .ok (.iload 4, 2) := by decide +kernel
theorem dX8_checksum_109 : decode cX8_checksum 109 = .ok (.iconst 5, 1) := by decide +kernel
theorem dX8_checksum_110 : decode cX8_checksum 110 = .ok (.if_icmp .gt 27, 3) := by decide +kernel
theorem dX8_checksum_113 : decode cX8_checksum 113 = .ok (.ldc2_w 228, 3) := by decide +kernel
theorem dX8_checksum_116 : decode cX8_checksum 116 = .ok (.lload_n 1, 1) := by decide +kernel
theorem dX8_checksum_117 : decode cX8_checksum 117 = .ok (.lmul, 1) := by decide +kernel
theorem dX8_checksum_118 : decode cX8_checksum 118 = .ok (.aload_n 0, 1) := by decide +kernel
theorem dX8_checksum_119 : decode cX8_checksum 119 = .ok (.getfield 19, 3) := by decide +kernel
theorem dX8_checksum_122 : decode cX8_checksum 122 = .ok (.iload_n 3, 1) := by decide +kernel
theorem dX8_checksum_123 : decode cX8_checksum 123 = .ok (.iload 4, 2) := by decide +kernel
theorem dX8_checksum_125 : decode cX8_checksum 125 = .ok (.invokevirtual 110, 3) := by decide +kernel
theorem dX8_checksum_128 : decode cX8_checksum 128 = .ok (.i2l, 1) := by decide +kernel
theorem dX8_checksum_129 : decode cX8_checksum 129 = .ok (.ladd, 1) := by decide +kernel
theorem dX8_checksum_130 : decode cX8_checksum 130 = .ok (.lstore_n 1, 1) := by decide +kernel
theorem dX8_checksum_131 : decode cX8_checksum 131 = .ok (.iinc 4 1, 3) := by decide +kernel
theorem dX8_checksum_134 : decode cX8_checksum 134 = .ok (.goto (-27), 3) := by decide +kernel
theorem dX8_checksum_137 : decode cX8_checksum 137 = .ok (.iinc 3 1, 3) := by decide +kernel
theorem dX8_checksum_140 : decode cX8_checksum 140 = .ok (.goto (-50), 3) := by decide +kernel
theorem dX8_checksum_143 : decode cX8_checksum 143 = .ok (.aload_n 0, 1) := by decide +kernel
theorem dX8_checksum_144 : decode cX8_checksum 144 = .ok (.getfield 19, 3) := by decide +kernel
theorem dX8_checksum_147 : decode cX8_checksum 147 = .ok (.getfield 113, 3) := by decide +kernel
theorem dX8_checksum_150 : decode cX8_checksum 150 = .ok (.ifCond .le 53, 3) := by decide +kernel
theorem dX8_checksum_153 : decode cX8_checksum 153 = .ok (.iconst 0, 1) := by decide +kernel
theorem dX8_checksum_154 : decode cX8_checksum 154 = .ok (.istore_n 3, 1) := by decide +kernel
theorem dX8_checksum_155 : decode cX8_checksum 155 = .ok (.iload_n 3, 1) := by decide +kernel
theorem dX8_checksum_156 : decode cX8_checksum 156 = .ok (.iconst 5, 1) := by decide +kernel
theorem dX8_checksum_157 : decode cX8_checksum 157 = .ok (.if_icmp .gt 28, 3) := by decide +kernel
theorem dX8_checksum_160 : decode cX8_checksum 160 = .ok (.ldc2_w 228, 3) := by decide +kernel
theorem dX8_checksum_163 : decode cX8_checksum 163 = .ok (.lload_n 1, 1) := by decide +kernel
theorem dX8_checksum_164 : decode cX8_checksum 164 = .ok (.lmul, 1) := by decide +kernel
theorem dX8_checksum_165 : decode cX8_checksum 165 = .ok (.aload_n 0, 1) := by decide +kernel
theorem dX8_checksum_166 : decode cX8_checksum 166 = .ok (.getfield 19, 3) := by decide +kernel
theorem dX8_checksum_169 : decode cX8_checksum 169 = .ok (.getfield 118, 3) := by decide +kernel
theorem dX8_checksum_172 : decode cX8_checksum 172 = .ok (.iload_n 3, 1) := by decide +kernel
theorem dX8_checksum_173 : decode cX8_checksum 173 = .ok (.invokevirtual 122, 3) := by decide +kernel
theorem dX8_checksum_176 : decode cX8_checksum 176 = .ok (.i2l, 1) := by decide +kernel
theorem dX8_checksum_177 : decode cX8_checksum 177 = .ok (.ladd, 1) := by decide +kernel
theorem dX8_checksum_178 : decode cX8_checksum 178 = .ok (.lstore_n 1, 1) := by decide +kernel
theorem dX8_checksum_179 : decode cX8_checksum 179 = .ok (.iinc 3 1, 3) := by decide +kernel
theorem dX8_checksum_182 : decode cX8_checksum 182 = .ok (.goto (-27), 3) := by decide +kernel
theorem dX8_checksum_185 : decode cX8_checksum 185 = .ok (.ldc2_w 228, 3) := by decide +kernel
theorem dX8_checksum_188 : decode cX8_checksum 188 = .ok (.lload_n 1, 1) := by decide +kernel
theorem dX8_checksum_189 : decode cX8_checksum 189 = .ok (.lmul, 1) := by decide +kernel
theorem dX8_checksum_190 : decode cX8_checksum 190 = .ok (.aload_n 0, 1) := by decide +kernel
theorem dX8_checksum_191 : decode cX8_checksum 191 = .ok (.getfield 19, 3) := by decide +kernel
theorem dX8_checksum_194 : decode cX8_checksum 194 = .ok (.getfield 118, 3) := by decide +kernel
theorem dX8_checksum_197 : decode cX8_checksum 197 = .ok (.invokevirtual 127, 3) := by decide +kernel
theorem dX8_checksum_200 : decode cX8_checksum 200 = .ok (.i2l, 1) := by decide +kernel
theorem dX8_checksum_201 : decode cX8_checksum 201 = .ok (.ladd, 1) := by decide +kernel
theorem dX8_checksum_202 : decode cX8_checksum 202 = .ok (.lstore_n 1, 1) := by decide +kernel
theorem dX8_checksum_203 : decode cX8_checksum 203 = .ok (.lload_n 1, 1) := by decide +kernel
theorem dX8_checksum_204 : decode cX8_checksum 204 = .ok (.lreturn, 1) := by decide +kernel
theorem dX8_refuseNoPlayer_0 : decode cX8_refuseNoPlayer 0 = .ok (.iload_n 1, 1) := by decide +kernel
theorem dX8_refuseNoPlayer_1 : decode cX8_refuseNoPlayer 1 = .ok (.ifCond .lt 17, 3) := by decide +kernel
theorem dX8_refuseNoPlayer_4 : decode cX8_refuseNoPlayer 4 = .ok (.iload_n 1, 1) := by decide +kernel
theorem dX8_refuseNoPlayer_5 : decode cX8_refuseNoPlayer 5 = .ok (.aload_n 0, 1) := by decide +kernel
theorem dX8_refuseNoPlayer_6 : decode cX8_refuseNoPlayer 6 = .ok (.getfield 19, 3) := by decide +kernel
theorem dX8_refuseNoPlayer_9 : decode cX8_refuseNoPlayer 9 = .ok (.getfield 155, 3) := by decide +kernel
theorem dX8_refuseNoPlayer_12 : decode cX8_refuseNoPlayer 12 = .ok (.getfield 69, 3) := by decide +kernel
theorem dX8_refuseNoPlayer_15 : decode cX8_refuseNoPlayer 15 = .ok (.if_icmp .lt 13, 3) := by decide +kernel
theorem dX8_refuseNoPlayer_18 : decode cX8_refuseNoPlayer 18 = .ok (.new 230, 3) := by decide +kernel
theorem dX8_refuseNoPlayer_21 : decode cX8_refuseNoPlayer 21 = .ok (.dup, 1) := by decide +kernel
theorem dX8_refuseNoPlayer_22 : decode cX8_refuseNoPlayer 22 = .ok (.ldc 232, 2) := by decide +kernel
theorem dX8_refuseNoPlayer_24 : decode cX8_refuseNoPlayer 24 = .ok (.invokespecial 234, 3) := by decide +kernel
theorem dX8_refuseNoPlayer_27 : decode cX8_refuseNoPlayer 27 = .ok (.athrow, 1) := by decide +kernel
theorem dX8_refuseNoPlayer_28 : decode cX8_refuseNoPlayer 28 = .ok (.return_, 1) := by decide +kernel
theorem dX8_refuseWhatOutside_0 : decode cX8_refuseWhatOutside 0 = .ok (.iload_n 1, 1) := by decide +kernel
theorem dX8_refuseWhatOutside_1 : decode cX8_refuseWhatOutside 1 = .ok (.ifCond .lt 8, 3) := by decide +kernel
theorem dX8_refuseWhatOutside_4 : decode cX8_refuseWhatOutside 4 = .ok (.iload_n 1, 1) := by decide +kernel
theorem dX8_refuseWhatOutside_5 : decode cX8_refuseWhatOutside 5 = .ok (.iload_n 2, 1) := by decide +kernel
theorem dX8_refuseWhatOutside_6 : decode cX8_refuseWhatOutside 6 = .ok (.if_icmp .le 13, 3) := by decide +kernel
theorem dX8_refuseWhatOutside_9 : decode cX8_refuseWhatOutside 9 = .ok (.new 45, 3) := by decide +kernel
theorem dX8_refuseWhatOutside_12 : decode cX8_refuseWhatOutside 12 = .ok (.dup, 1) := by decide +kernel
theorem dX8_refuseWhatOutside_13 : decode cX8_refuseWhatOutside 13 = .ok (.ldc 235, 2) := by decide +kernel
theorem dX8_refuseWhatOutside_15 : decode cX8_refuseWhatOutside 15 = .ok (.invokespecial 49, 3) := by decide +kernel
theorem dX8_refuseWhatOutside_18 : decode cX8_refuseWhatOutside 18 = .ok (.athrow, 1) := by decide +kernel
theorem dX8_refuseWhatOutside_19 : decode cX8_refuseWhatOutside 19 = .ok (.return_, 1) := by decide +kernel
theorem dX8_keepForUndo_0 : decode cX8_keepForUndo 0 = .ok (.aload_n 0, 1) := by decide +kernel
theorem dX8_keepForUndo_1 : decode cX8_keepForUndo 1 = .ok (.aload_n 0, 1) := by decide +kernel
theorem dX8_keepForUndo_2 : decode cX8_keepForUndo 2 = .ok (.getfield 225, 3) := by decide +kernel
theorem dX8_keepForUndo_5 : decode cX8_keepForUndo 5 = .ok (.iconst 1, 1) := by decide +kernel
theorem dX8_keepForUndo_6 : decode cX8_keepForUndo 6 = .ok (.iadd, 1) := by decide +kernel
theorem dX8_keepForUndo_7 : decode cX8_keepForUndo 7 = .ok (.bipush 7, 2) := by decide +kernel
theorem dX8_keepForUndo_9 : decode cX8_keepForUndo 9 = .ok (.iand, 1) := by decide +kernel
theorem dX8_keepForUndo_10 : decode cX8_keepForUndo 10 = .ok (.putfield 225, 3) := by decide +kernel
theorem dX8_keepForUndo_13 : decode cX8_keepForUndo 13 = .ok (.aload_n 0, 1) := by decide +kernel
theorem dX8_keepForUndo_14 : decode cX8_keepForUndo 14 = .ok (.getfield 26, 3) := by decide +kernel
theorem dX8_keepForUndo_17 : decode cX8_keepForUndo 17 = .ok (.aload_n 0, 1) := by decide +kernel
theorem dX8_keepForUndo_18 : decode cX8_keepForUndo 18 = .ok (.getfield 225, 3) := by decide +kernel
theorem dX8_keepForUndo_21 : decode cX8_keepForUndo 21 = .ok (.bipush 7, 2) := by decide +kernel
theorem dX8_keepForUndo_23 : decode cX8_keepForUndo 23 = .ok (.iand, 1) := by decide +kernel
theorem dX8_keepForUndo_24 : decode cX8_keepForUndo 24 = .ok (.aaload, 1) := by decide +kernel
theorem dX8_keepForUndo_25 : decode cX8_keepForUndo 25 = .ok (.aload_n 0, 1) := by decide +kernel
theorem dX8_keepForUndo_26 : decode cX8_keepForUndo 26 = .ok (.getfield 19, 3) := by decide +kernel
theorem dX8_keepForUndo_29 : decode cX8_keepForUndo 29 = .ok (.invokevirtual 131, 3) := by decide +kernel
theorem dX8_keepForUndo_32 : decode cX8_keepForUndo 32 = .ok (.aload_n 0, 1) := by decide +kernel
theorem dX8_keepForUndo_33 : decode cX8_keepForUndo 33 = .ok (.getfield 222, 3) := by decide +kernel
theorem dX8_keepForUndo_36 : decode cX8_keepForUndo 36 = .ok (.bipush 8, 2) := by decide +kernel
theorem dX8_keepForUndo_38 : decode cX8_keepForUndo 38 = .ok (.if_icmp .ge 13, 3) := by decide +kernel
theorem dX8_keepForUndo_41 : decode cX8_keepForUndo 41 = .ok (.aload_n 0, 1) := by decide +kernel
theorem dX8_keepForUndo_42 : decode cX8_keepForUndo 42 = .ok (.dup, 1) := by decide +kernel
theorem dX8_keepForUndo_43 : decode cX8_keepForUndo 43 = .ok (.getfield 222, 3) := by decide +kernel
theorem dX8_keepForUndo_46 : decode cX8_keepForUndo 46 = .ok (.iconst 1, 1) := by decide +kernel
theorem dX8_keepForUndo_47 : decode cX8_keepForUndo 47 = .ok (.iadd, 1) := by decide +kernel
theorem dX8_keepForUndo_48 : decode cX8_keepForUndo 48 = .ok (.putfield 222, 3) := by decide +kernel
theorem dX8_keepForUndo_51 : decode cX8_keepForUndo 51 = .ok (.return_, 1) := by decide +kernel
theorem dX9_init_0 : decode cX9_init 0 = .ok (.aload_n 0, 1) := by decide +kernel
theorem dX9_init_1 : decode cX9_init 1 = .ok (.invokespecial 3, 3) := by decide +kernel
theorem dX9_init_4 : decode cX9_init 4 = .ok (.aload_n 0, 1) := by decide +kernel
theorem dX9_init_5 : decode cX9_init 5 = .ok (.sipush 600, 3) := by decide +kernel
theorem dX9_init_8 : decode cX9_init 8 = .ok (.newarray .int, 2) := by decide +kernel
theorem dX9_init_10 : decode cX9_init 10 = .ok (.putfield 9, 3) := by decide +kernel
theorem dX9_init_13 : decode cX9_init 13 = .ok (.aload_n 0, 1) := by decide +kernel
theorem dX9_init_14 : decode cX9_init 14 = .ok (.iconst (-1), 1) := by decide +kernel
theorem dX9_init_15 : decode cX9_init 15 = .ok (.putfield 13, 3) := by decide +kernel
theorem dX9_init_18 : decode cX9_init 18 = .ok (.aload_n 0, 1) := by decide +kernel
theorem dX9_init_19 : decode cX9_init 19 = .ok (.ldc 17, 2) := by decide +kernel
theorem dX9_init_21 : decode cX9_init 21 = .ok (.newarray .int, 2) := by decide +kernel
theorem dX9_init_23 : decode cX9_init 23 = .ok (.putfield 18, 3) := by decide +kernel
theorem dX9_init_26 : decode cX9_init 26 = .ok (.aload_n 0, 1) := by decide +kernel
theorem dX9_init_27 : decode cX9_init 27 = .ok (.ldc 17, 2) := by decide +kernel
theorem dX9_init_29 : decode cX9_init 29 = .ok (.newarray .int, 2) := by decide +kernel
theorem dX9_init_31 : decode cX9_init 31 = .ok (.putfield 21, 3) := by decide +kernel
theorem dX9_init_34 : decode cX9_init 34 = .ok (.aload_n 0, 1) := by decide +kernel
theorem dX9_init_35 : decode cX9_init 35 = .ok (.sipush 1383, 3) := by decide +kernel
theorem dX9_init_38 : decode cX9_init 38 = .ok (.newarray .int, 2) := by decide +kernel
theorem dX9_init_40 : decode cX9_init 40 = .ok (.putfield 24, 3) := by decide +kernel
theorem dX9_init_43 : decode cX9_init 43 = .ok (.aload_n 0, 1) := by decide +kernel
theorem dX9_init_44 : decode cX9_init 44 = .ok (.bipush 8, 2) := by decide +kernel
theorem dX9_init_46 : decode cX9_init 46 = .ok (.ldc 17, 2) := by decide +kernel
theorem dX9_init_48 : decode cX9_init 48 = .ok (.multianewarray 27 2, 4) := by decide +kernel
theorem dX9_init_52 : decode cX9_init 52 = .ok (.putfield 29, 3) := by decide +kernel
theorem dX9_init_55 : decode cX9_init 55 = .ok (.aload_n 0, 1) := by decide +kernel
theorem dX9_init_56 : decode cX9_init 56 = .ok (.sipush 1200, 3) := by decide +kernel
theorem dX9_init_59 : decode cX9_init 59 = .ok (.newarray .long, 2) := by decide +kernel
theorem dX9_init_61 : decode cX9_init 61 = .ok (.putfield 32, 3) := by decide +kernel
theorem dX9_init_64 : decode cX9_init 64 = .ok (.aload_n 0, 1) := by decide +kernel
theorem dX9_init_65 : decode cX9_init 65 = .ok (.getfield 18, 3) := by decide +kernel
theorem dX9_init_68 : decode cX9_init 68 = .ok (.iconst 1, 1) := by decide +kernel
theorem dX9_init_69 : decode cX9_init 69 = .ok (.invokestatic 36, 3) := by decide +kernel
theorem dX9_init_72 : decode cX9_init 72 = .ok (.return_, 1) := by decide +kernel
theorem dX9_thrown_0 : decode cX9_thrown 0 = .ok (.aload_n 0, 1) := by decide +kernel
theorem dX9_thrown_1 : decode cX9_thrown 1 = .ok (.getfield 40, 3) := by decide +kernel
theorem dX9_thrown_4 : decode cX9_thrown 4 = .ok (.ireturn, 1) := by decide +kernel
theorem dX9_fails_0 : decode cX9_fails 0 = .ok (.iload_n 1, 1) := by decide +kernel
theorem dX9_fails_1 : decode cX9_fails 1 = .ok (.ifCond .eq 15, 3) := by decide +kernel
theorem dX9_fails_4 : decode cX9_fails 4 = .ok (.aload_n 0, 1) := by decide +kernel
theorem dX9_fails_5 : decode cX9_fails 5 = .ok (.getfield 40, 3) := by decide +kernel
theorem dX9_fails_8 : decode cX9_fails 8 = .ok (.ifCond .ne 8, 3) := by decide +kernel
theorem dX9_fails_11 : decode cX9_fails 11 = .ok (.aload_n 0, 1) := by decide +kernel
theorem dX9_fails_12 : decode cX9_fails 12 = .ok (.iload_n 2, 1) := by decide +kernel
theorem dX9_fails_13 : decode cX9_fails 13 = .ok (.putfield 40, 3) := by decide +kernel
theorem dX9_fails_16 : decode cX9_fails 16 = .ok (.aload_n 0, 1) := by decide +kernel
theorem dX9_fails_17 : decode cX9_fails 17 = .ok (.getfield 40, 3) := by decide +kernel
theorem dX9_fails_20 : decode cX9_fails 20 = .ok (.ifCond .eq 7, 3) := by decide +kernel
theorem dX9_fails_23 : decode cX9_fails 23 = .ok (.iconst 1, 1) := by decide +kernel
theorem dX9_fails_24 : decode cX9_fails 24 = .ok (.goto 4, 3) := by decide +kernel
theorem dX9_fails_27 : decode cX9_fails 27 = .ok (.iconst 0, 1) := by decide +kernel
theorem dX9_fails_28 : decode cX9_fails 28 = .ok (.ireturn, 1) := by decide +kernel
theorem dX9_in_0 : decode cX9_in 0 = .ok (.iload_n 0, 1) := by decide +kernel
theorem dX9_in_1 : decode cX9_in 1 = .ok (.iload_n 1, 1) := by decide +kernel
theorem dX9_in_2 : decode cX9_in 2 = .ok (.if_icmp .lt 12, 3) := by decide +kernel
theorem dX9_in_5 : decode cX9_in 5 = .ok (.iload_n 0, 1) := by decide +kernel
theorem dX9_in_6 : decode cX9_in 6 = .ok (.iload_n 2, 1) := by decide +kernel
theorem dX9_in_7 : decode cX9_in 7 = .ok (.if_icmp .gt 7, 3) := by decide +kernel
theorem dX9_in_10 : decode cX9_in 10 = .ok (.iconst 1, 1) := by decide +kernel
theorem dX9_in_11 : decode cX9_in 11 = .ok (.goto 4, 3) := by decide +kernel
theorem dX9_in_14 : decode cX9_in 14 = .ok (.iconst 0, 1) := by decide +kernel
theorem dX9_in_15 : decode cX9_in 15 = .ok (.ireturn, 1) := by decide +kernel
theorem dX9_min_0 : decode cX9_min 0 = .ok (.iload_n 0, 1) := by decide +kernel
theorem dX9_min_1 : decode cX9_min 1 = .ok (.iload_n 1, 1) := by decide +kernel
theorem dX9_min_2 : decode cX9_min 2 = .ok (.if_icmp .ge 7, 3) := by decide +kernel
theorem dX9_min_5 : decode cX9_min 5 = .ok (.iload_n 0, 1) := by decide +kernel
theorem dX9_min_6 : decode cX9_min 6 = .ok (.goto 4, 3) := by decide +kernel
theorem dX9_min_9 : decode cX9_min 9 = .ok (.iload_n 1, 1) := by decide +kernel
theorem dX9_min_10 : decode cX9_min 10 = .ok (.ireturn, 1) := by decide +kernel
theorem dX9_max_0 : decode cX9_max 0 = .ok (.iload_n 0, 1) := by decide +kernel
theorem dX9_max_1 : decode cX9_max 1 = .ok (.iload_n 1, 1) := by decide +kernel
theorem dX9_max_2 : decode cX9_max 2 = .ok (.if_icmp .le 7, 3) := by decide +kernel
theorem dX9_max_5 : decode cX9_max 5 = .ok (.iload_n 0, 1) := by decide +kernel
theorem dX9_max_6 : decode cX9_max 6 = .ok (.goto 4, 3) := by decide +kernel
theorem dX9_max_9 : decode cX9_max 9 = .ok (.iload_n 1, 1) := by decide +kernel
theorem dX9_max_10 : decode cX9_max 10 = .ok (.ireturn, 1) := by decide +kernel
theorem dX9_copy_0 : decode cX9_copy 0 = .ok (.sipush 1383, 3) := by decide +kernel
theorem dX9_copy_3 : decode cX9_copy 3 = .ok (.bipush 6, 2) := by decide +kernel
theorem dX9_copy_5 : decode cX9_copy 5 = .ok (.aload_n 0, 1) := by decide +kernel
theorem dX9_copy_6 : decode cX9_copy 6 = .ok (.iconst 3, 1) := by decide +kernel
theorem dX9_copy_7 : decode cX9_copy 7 = .ok (.iaload, 1) := by decide +kernel
theorem dX9_copy_8 : decode cX9_copy 8 = .ok (.imul, 1) := by decide +kernel
theorem dX9_copy_9 : decode cX9_copy 9 = .ok (.iadd, 1) := by decide +kernel
theorem dX9_copy_10 : decode cX9_copy 10 = .ok (.istore_n 2, 1) := by decide +kernel
theorem dX9_copy_11 : decode cX9_copy 11 = .ok (.iconst 0, 1) := by decide +kernel
theorem dX9_copy_12 : decode cX9_copy 12 = .ok (.istore_n 3, 1) := by decide +kernel
theorem dX9_copy_13 : decode cX9_copy 13 = .ok (.iload_n 3, 1) := by decide +kernel
theorem dX9_copy_14 : decode cX9_copy 14 = .ok (.iload_n 2, 1) := by decide +kernel
theorem dX9_copy_15 : decode cX9_copy 15 = .ok (.if_icmp .ge 15, 3) := by decide +kernel
theorem dX9_copy_18 : decode cX9_copy 18 = .ok (.aload_n 1, 1) := by decide +kernel
theorem dX9_copy_19 : decode cX9_copy 19 = .ok (.iload_n 3, 1) := by decide +kernel
theorem dX9_copy_20 : decode cX9_copy 20 = .ok (.aload_n 0, 1) := by decide +kernel
theorem dX9_copy_21 : decode cX9_copy 21 = .ok (.iload_n 3, 1) := by decide +kernel
theorem dX9_copy_22 : decode cX9_copy 22 = .ok (.iaload, 1) := by decide +kernel
theorem dX9_copy_23 : decode cX9_copy 23 = .ok (.iastore, 1) := by decide +kernel
theorem dX9_copy_24 : decode cX9_copy 24 = .ok (.iinc 3 1, 3) := by decide +kernel
theorem dX9_copy_27 : decode cX9_copy 27 = .ok (.goto (-14), 3) := by decide +kernel
theorem dX9_copy_30 : decode cX9_copy 30 = .ok (.return_, 1) := by decide +kernel
theorem dX9_layPlayers_0 : decode cX9_layPlayers 0 = .ok (.iconst 0, 1) := by decide +kernel
theorem dX9_layPlayers_1 : decode cX9_layPlayers 1 = .ok (.istore_n 2, 1) := by decide +kernel
theorem dX9_layPlayers_2 : decode cX9_layPlayers 2 = .ok (.iload_n 2, 1) := by decide +kernel
theorem dX9_layPlayers_3 : decode cX9_layPlayers 3 = .ok (.sipush 1383, 3) := by decide +kernel
theorem dX9_layPlayers_6 : decode cX9_layPlayers 6 = .ok (.if_icmp .ge 13, 3) := by decide +kernel
theorem dX9_layPlayers_9 : decode cX9_layPlayers 9 = .ok (.aload_n 0, 1) := by decide +kernel
theorem dX9_layPlayers_10 : decode cX9_layPlayers 10 = .ok (.iload_n 2, 1) := by decide +kernel
theorem dX9_layPlayers_11 : decode cX9_layPlayers 11 = .ok (.iconst 0, 1) := by decide +kernel
theorem dX9_layPlayers_12 : decode cX9_layPlayers 12 = .ok (.iastore, 1) := by decide +kernel
theorem dX9_layPlayers_13 : decode cX9_layPlayers 13 = .ok (.iinc 2 1, 3) := by decide +kernel
theorem dX9_layPlayers_16 : decode cX9_layPlayers 16 = .ok (.goto (-14), 3) := by decide +kernel
theorem dX9_layPlayers_19 : decode cX9_layPlayers 19 = .ok (.aload_n 0, 1) := by decide +kernel
theorem dX9_layPlayers_20 : decode cX9_layPlayers 20 = .ok (.iconst 0, 1) := by decide +kernel
theorem dX9_layPlayers_21 : decode cX9_layPlayers 21 = .ok (.iload_n 1, 1) := by decide +kernel
theorem dX9_layPlayers_22 : decode cX9_layPlayers 22 = .ok (.iastore, 1) := by decide +kernel
theorem dX9_layPlayers_23 : decode cX9_layPlayers 23 = .ok (.aload_n 0, 1) := by decide +kernel
theorem dX9_layPlayers_24 : decode cX9_layPlayers 24 = .ok (.bipush 11, 2) := by decide +kernel
theorem dX9_layPlayers_26 : decode cX9_layPlayers 26 = .ok (.iload_n 1, 1) := by decide +kernel
theorem dX9_layPlayers_27 : decode cX9_layPlayers 27 = .ok (.iastore, 1) := by decide +kernel
