theorem dX9_layPlayers_28 : decode cX9_layPlayers 28 = .ok (.aload_n 0, 1) := by decide +kernel
theorem dX9_layPlayers_29 : decode cX9_layPlayers 29 = .ok (.bipush 12, 2) := by decide +kernel
theorem dX9_layPlayers_31 : decode cX9_layPlayers 31 = .ok (.bipush 50, 2) := by decide +kernel
theorem dX9_layPlayers_33 : decode cX9_layPlayers 33 = .ok (.iastore, 1) := by decide +kernel
theorem dX9_layPlayers_34 : decode cX9_layPlayers 34 = .ok (.aload_n 0, 1) := by decide +kernel
theorem dX9_layPlayers_35 : decode cX9_layPlayers 35 = .ok (.bipush 21, 2) := by decide +kernel
theorem dX9_layPlayers_37 : decode cX9_layPlayers 37 = .ok (.iconst (-1), 1) := by decide +kernel
theorem dX9_layPlayers_38 : decode cX9_layPlayers 38 = .ok (.iastore, 1) := by decide +kernel
theorem dX9_layPlayers_39 : decode cX9_layPlayers 39 = .ok (.aload_n 0, 1) := by decide +kernel
theorem dX9_layPlayers_40 : decode cX9_layPlayers 40 = .ok (.bipush 22, 2) := by decide +kernel
theorem dX9_layPlayers_42 : decode cX9_layPlayers 42 = .ok (.iconst (-1), 1) := by decide +kernel
theorem dX9_layPlayers_43 : decode cX9_layPlayers 43 = .ok (.iastore, 1) := by decide +kernel
theorem dX9_layPlayers_44 : decode cX9_layPlayers 44 = .ok (.iconst 0, 1) := by decide +kernel
theorem dX9_layPlayers_45 : decode cX9_layPlayers 45 = .ok (.istore_n 2, 1) := by decide +kernel
theorem dX9_layPlayers_46 : decode cX9_layPlayers 46 = .ok (.iload_n 2, 1) := by decide +kernel
theorem dX9_layPlayers_47 : decode cX9_layPlayers 47 = .ok (.bipush 8, 2) := by decide +kernel
theorem dX9_layPlayers_49 : decode cX9_layPlayers 49 = .ok (.if_icmp .ge 38, 3) := by decide +kernel
theorem dX9_layPlayers_52 : decode cX9_layPlayers 52 = .ok (.aload_n 0, 1) := by decide +kernel
theorem dX9_layPlayers_53 : decode cX9_layPlayers 53 = .ok (.iload_n 2, 1) := by decide +kernel
theorem dX9_layPlayers_54 : decode cX9_layPlayers 54 = .ok (.invokestatic 43, 3) := by decide +kernel
theorem dX9_layPlayers_57 : decode cX9_layPlayers 57 = .ok (.iconst 0, 1) := by decide +kernel
theorem dX9_layPlayers_58 : decode cX9_layPlayers 58 = .ok (.iadd, 1) := by decide +kernel
theorem dX9_layPlayers_59 : decode cX9_layPlayers 59 = .ok (.iconst 1, 1) := by decide +kernel
theorem dX9_layPlayers_60 : decode cX9_layPlayers 60 = .ok (.iastore, 1) := by decide +kernel
theorem dX9_layPlayers_61 : decode cX9_layPlayers 61 = .ok (.aload_n 0, 1) := by decide +kernel
theorem dX9_layPlayers_62 : decode cX9_layPlayers 62 = .ok (.iload_n 2, 1) := by decide +kernel
theorem dX9_layPlayers_63 : decode cX9_layPlayers 63 = .ok (.invokestatic 43, 3) := by decide +kernel
theorem dX9_layPlayers_66 : decode cX9_layPlayers 66 = .ok (.bipush 6, 2) := by decide +kernel
theorem dX9_layPlayers_68 : decode cX9_layPlayers 68 = .ok (.iadd, 1) := by decide +kernel
theorem dX9_layPlayers_69 : decode cX9_layPlayers 69 = .ok (.iconst (-1), 1) := by decide +kernel
theorem dX9_layPlayers_70 : decode cX9_layPlayers 70 = .ok (.iastore, 1) := by decide +kernel
theorem dX9_layPlayers_71 : decode cX9_layPlayers 71 = .ok (.aload_n 0, 1) := by decide +kernel
theorem dX9_layPlayers_72 : decode cX9_layPlayers 72 = .ok (.iload_n 2, 1) := by decide +kernel
theorem dX9_layPlayers_73 : decode cX9_layPlayers 73 = .ok (.invokestatic 43, 3) := by decide +kernel
theorem dX9_layPlayers_76 : decode cX9_layPlayers 76 = .ok (.bipush 11, 2) := by decide +kernel
theorem dX9_layPlayers_78 : decode cX9_layPlayers 78 = .ok (.iadd, 1) := by decide +kernel
theorem dX9_layPlayers_79 : decode cX9_layPlayers 79 = .ok (.iconst (-1), 1) := by decide +kernel
theorem dX9_layPlayers_80 : decode cX9_layPlayers 80 = .ok (.iastore, 1) := by decide +kernel
theorem dX9_layPlayers_81 : decode cX9_layPlayers 81 = .ok (.iinc 2 1, 3) := by decide +kernel
theorem dX9_layPlayers_84 : decode cX9_layPlayers 84 = .ok (.goto (-38), 3) := by decide +kernel
theorem dX9_layPlayers_87 : decode cX9_layPlayers 87 = .ok (.return_, 1) := by decide +kernel
theorem dX9_append_0 : decode cX9_append 0 = .ok (.aload_n 0, 1) := by decide +kernel
theorem dX9_append_1 : decode cX9_append 1 = .ok (.iconst 0, 1) := by decide +kernel
theorem dX9_append_2 : decode cX9_append 2 = .ok (.putfield 40, 3) := by decide +kernel
theorem dX9_append_5 : decode cX9_append 5 = .ok (.aload_n 0, 1) := by decide +kernel
theorem dX9_append_6 : decode cX9_append 6 = .ok (.getfield 47, 3) := by decide +kernel
theorem dX9_append_9 : decode cX9_append 9 = .ok (.bipush 20, 2) := by decide +kernel
theorem dX9_append_11 : decode cX9_append 11 = .ok (.iadd, 1) := by decide +kernel
theorem dX9_append_12 : decode cX9_append 12 = .ok (.sipush 600, 3) := by decide +kernel
theorem dX9_append_15 : decode cX9_append 15 = .ok (.if_icmp .le 5, 3) := by decide +kernel
theorem dX9_append_18 : decode cX9_append 18 = .ok (.iconst (-1), 1) := by decide +kernel
theorem dX9_append_19 : decode cX9_append 19 = .ok (.ireturn, 1) := by decide +kernel
theorem dX9_append_20 : decode cX9_append 20 = .ok (.iconst 0, 1) := by decide +kernel
theorem dX9_append_21 : decode cX9_append 21 = .ok (.istore 6, 2) := by decide +kernel
theorem dX9_append_23 : decode cX9_append 23 = .ok (.iload 6, 2) := by decide +kernel
theorem dX9_append_25 : decode cX9_append 25 = .ok (.bipush 20, 2) := by decide +kernel
theorem dX9_append_27 : decode cX9_append 27 = .ok (.if_icmp .ge 93, 3) := by decide +kernel
theorem dX9_append_30 : decode cX9_append 30 = .ok (.iload 6, 2) := by decide +kernel
theorem dX9_append_32 : decode cX9_append 32 = .ok (.iconst 4, 1) := by decide +kernel
theorem dX9_append_33 : decode cX9_append 33 = .ok (.if_icmp .ge 7, 3) := by decide +kernel
theorem dX9_append_36 : decode cX9_append 36 = .ok (.iload_n 1, 1) := by decide +kernel
theorem dX9_append_37 : decode cX9_append 37 = .ok (.goto 39, 3) := by decide +kernel
theorem dX9_append_40 : decode cX9_append 40 = .ok (.iload 6, 2) := by decide +kernel
theorem dX9_append_42 : decode cX9_append 42 = .ok (.bipush 8, 2) := by decide +kernel
theorem dX9_append_44 : decode cX9_append 44 = .ok (.if_icmp .ge 7, 3) := by decide +kernel
theorem dX9_append_47 : decode cX9_append 47 = .ok (.iload_n 2, 1) := by decide +kernel
theorem dX9_append_48 : decode cX9_append 48 = .ok (.goto 28, 3) := by decide +kernel
theorem dX9_append_51 : decode cX9_append 51 = .ok (.iload 6, 2) := by decide +kernel
theorem dX9_append_53 : decode cX9_append 53 = .ok (.bipush 12, 2) := by decide +kernel
theorem dX9_append_55 : decode cX9_append 55 = .ok (.if_icmp .ge 7, 3) := by decide +kernel
theorem dX9_append_58 : decode cX9_append 58 = .ok (.iload_n 3, 1) := by decide +kernel
theorem dX9_append_59 : decode cX9_append 59 = .ok (.goto 17, 3) := by decide +kernel
theorem dX9_append_62 : decode cX9_append 62 = .ok (.iload 6, 2) := by decide +kernel
theorem dX9_append_64 : decode cX9_append 64 = .ok (.bipush 16, 2) := by decide +kernel
theorem dX9_append_66 : decode cX9_append 66 = .ok (.if_icmp .ge 8, 3) := by decide +kernel
theorem dX9_append_69 : decode cX9_append 69 = .ok (.iload 4, 2) := by decide +kernel
theorem dX9_append_71 : decode cX9_append 71 = .ok (.goto 5, 3) := by decide +kernel
theorem dX9_append_74 : decode cX9_append 74 = .ok (.iload 5, 2) := by decide +kernel
theorem dX9_append_76 : decode cX9_append 76 = .ok (.istore 7, 2) := by decide +kernel
theorem dX9_append_78 : decode cX9_append 78 = .ok (.aload_n 0, 1) := by decide +kernel
theorem dX9_append_79 : decode cX9_append 79 = .ok (.getfield 9, 3) := by decide +kernel
theorem dX9_append_82 : decode cX9_append 82 = .ok (.aload_n 0, 1) := by decide +kernel
theorem dX9_append_83 : decode cX9_append 83 = .ok (.getfield 47, 3) := by decide +kernel
theorem dX9_append_86 : decode cX9_append 86 = .ok (.iload 7, 2) := by decide +kernel
theorem dX9_append_88 : decode cX9_append 88 = .ok (.bipush 24, 2) := by decide +kernel
theorem dX9_append_90 : decode cX9_append 90 = .ok (.bipush 8, 2) := by decide +kernel
theorem dX9_append_92 : decode cX9_append 92 = .ok (.iload 6, 2) := by decide +kernel
theorem dX9_append_94 : decode cX9_append 94 = .ok (.iconst 4, 1) := by decide +kernel
theorem dX9_append_95 : decode cX9_append 95 = .ok (.irem, 1) := by decide +kernel
theorem dX9_append_96 : decode cX9_append 96 = .ok (.imul, 1) := by decide +kernel
theorem dX9_append_97 : decode cX9_append 97 = .ok (.isub, 1) := by decide +kernel
theorem dX9_append_98 : decode cX9_append 98 = .ok (.ishr, 1) := by decide +kernel
theorem dX9_append_99 : decode cX9_append 99 = .ok (.sipush 255, 3) := by decide +kernel
theorem dX9_append_102 : decode cX9_append 102 = .ok (.iand, 1) := by decide +kernel
theorem dX9_append_103 : decode cX9_append 103 = .ok (.iastore, 1) := by decide +kernel
theorem dX9_append_104 : decode cX9_append 104 = .ok (.aload_n 0, 1) := by decide +kernel
theorem dX9_append_105 : decode cX9_append 105 = .ok (.dup, 1) := by decide +kernel
theorem dX9_append_106 : decode cX9_append 106 = .ok (.getfield 47, 3) := by decide +kernel
theorem dX9_append_109 : decode cX9_append 109 = .ok (.iconst 1, 1) := by decide +kernel
theorem dX9_append_110 : decode cX9_append 110 = .ok (.iadd, 1) := by decide +kernel
theorem dX9_append_111 : decode cX9_append 111 = .ok (.putfield 47, 3) := by decide +kernel
theorem dX9_append_114 : decode cX9_append 114 = .ok (.iinc 6 1, 3) := by decide +kernel
theorem dX9_append_117 : decode cX9_append 117 = .ok (.goto (-94), 3) := by decide +kernel
theorem dX9_append_120 : decode cX9_append 120 = .ok (.aload_n 0, 1) := by decide +kernel
theorem dX9_append_121 : decode cX9_append 121 = .ok (.getfield 47, 3) := by decide +kernel
theorem dX9_append_124 : decode cX9_append 124 = .ok (.ireturn, 1) := by decide +kernel
theorem dX9_byteAt_0 : decode cX9_byteAt 0 = .ok (.iload_n 1, 1) := by decide +kernel
theorem dX9_byteAt_1 : decode cX9_byteAt 1 = .ok (.aload_n 0, 1) := by decide +kernel
theorem dX9_byteAt_2 : decode cX9_byteAt 2 = .ok (.getfield 50, 3) := by decide +kernel
theorem dX9_byteAt_5 : decode cX9_byteAt 5 = .ok (.if_icmp .ge 12, 3) := by decide +kernel
theorem dX9_byteAt_8 : decode cX9_byteAt 8 = .ok (.aload_n 0, 1) := by decide +kernel
theorem dX9_byteAt_9 : decode cX9_byteAt 9 = .ok (.getfield 9, 3) := by decide +kernel
theorem dX9_byteAt_12 : decode cX9_byteAt 12 = .ok (.iload_n 1, 1) := by decide +kernel
theorem dX9_byteAt_13 : decode cX9_byteAt 13 = .ok (.iaload, 1) := by decide +kernel
theorem dX9_byteAt_14 : decode cX9_byteAt 14 = .ok (.goto 4, 3) := by decide +kernel
theorem dX9_byteAt_17 : decode cX9_byteAt 17 = .ok (.iconst (-1), 1) := by decide +kernel
theorem dX9_byteAt_18 : decode cX9_byteAt 18 = .ok (.ireturn, 1) := by decide +kernel
theorem dX9_ahead_0 : decode cX9_ahead 0 = .ok (.aload_n 0, 1) := by decide +kernel
theorem dX9_ahead_1 : decode cX9_ahead 1 = .ok (.aload_n 0, 1) := by decide +kernel
theorem dX9_ahead_2 : decode cX9_ahead 2 = .ok (.getfield 53, 3) := by decide +kernel
theorem dX9_ahead_5 : decode cX9_ahead 5 = .ok (.invokevirtual 56, 3) := by decide +kernel
theorem dX9_ahead_8 : decode cX9_ahead 8 = .ok (.bipush 32, 2) := by decide +kernel
theorem dX9_ahead_10 : decode cX9_ahead 10 = .ok (.if_icmp .ne 16, 3) := by decide +kernel
theorem dX9_ahead_13 : decode cX9_ahead 13 = .ok (.aload_n 0, 1) := by decide +kernel
theorem dX9_ahead_14 : decode cX9_ahead 14 = .ok (.dup, 1) := by decide +kernel
theorem dX9_ahead_15 : decode cX9_ahead 15 = .ok (.getfield 53, 3) := by decide +kernel
theorem dX9_ahead_18 : decode cX9_ahead 18 = .ok (.iconst 1, 1) := by decide +kernel
theorem dX9_ahead_19 : decode cX9_ahead 19 = .ok (.iadd, 1) := by decide +kernel
theorem dX9_ahead_20 : decode cX9_ahead 20 = .ok (.putfield 53, 3) := by decide +kernel
theorem dX9_ahead_23 : decode cX9_ahead 23 = .ok (.goto (-23), 3) := by decide +kernel
theorem dX9_ahead_26 : decode cX9_ahead 26 = .ok (.aload_n 0, 1) := by decide +kernel
theorem dX9_ahead_27 : decode cX9_ahead 27 = .ok (.aload_n 0, 1) := by decide +kernel
theorem dX9_ahead_28 : decode cX9_ahead 28 = .ok (.getfield 53, 3) := by decide +kernel
theorem dX9_ahead_31 : decode cX9_ahead 31 = .ok (.invokevirtual 56, 3) := by decide +kernel
theorem dX9_ahead_34 : decode cX9_ahead 34 = .ok (.ireturn, 1) := by decide +kernel
theorem dX9_isGood_0 : decode cX9_isGood 0 = .ok (.aload_n 0, 1) := by decide +kernel
theorem dX9_isGood_1 : decode cX9_isGood 1 = .ok (.getfield 59, 3) := by decide +kernel
theorem dX9_isGood_4 : decode cX9_isGood 4 = .ok (.ifCond .ne 7, 3) := by decide +kernel
theorem dX9_isGood_7 : decode cX9_isGood 7 = .ok (.iconst 1, 1) := by decide +kernel
theorem dX9_isGood_8 : decode cX9_isGood 8 = .ok (.goto 4, 3) := by decide +kernel
theorem dX9_isGood_11 : decode cX9_isGood 11 = .ok (.iconst 0, 1) := by decide +kernel
theorem dX9_isGood_12 : decode cX9_isGood 12 = .ok (.ireturn, 1) := by decide +kernel
theorem dX9_report_0 : decode cX9_report 0 = .ok (.aload_n 0, 1) := by decide +kernel
theorem dX9_report_1 : decode cX9_report 1 = .ok (.getfield 59, 3) := by decide +kernel
theorem dX9_report_4 : decode cX9_report 4 = .ok (.ifCond .eq 4, 3) := by decide +kernel
theorem dX9_report_7 : decode cX9_report 7 = .ok (.return_, 1) := by decide +kernel
theorem dX9_report_8 : decode cX9_report 8 = .ok (.aload_n 0, 1) := by decide +kernel
theorem dX9_report_9 : decode cX9_report 9 = .ok (.iload_n 1, 1) := by decide +kernel
theorem dX9_report_10 : decode cX9_report 10 = .ok (.putfield 59, 3) := by decide +kernel
theorem dX9_report_13 : decode cX9_report 13 = .ok (.aload_n 0, 1) := by decide +kernel
theorem dX9_report_14 : decode cX9_report 14 = .ok (.iload_n 2, 1) := by decide +kernel
theorem dX9_report_15 : decode cX9_report 15 = .ok (.putfield 62, 3) := by decide +kernel
theorem dX9_report_18 : decode cX9_report 18 = .ok (.return_, 1) := by decide +kernel
theorem dX9_isDigit_0 : decode cX9_isDigit 0 = .ok (.iload_n 0, 1) := by decide +kernel
theorem dX9_isDigit_1 : decode cX9_isDigit 1 = .ok (.bipush 48, 2) := by decide +kernel
theorem dX9_isDigit_3 : decode cX9_isDigit 3 = .ok (.bipush 57, 2) := by decide +kernel
theorem dX9_isDigit_5 : decode cX9_isDigit 5 = .ok (.invokestatic 65, 3) := by decide +kernel
theorem dX9_isDigit_8 : decode cX9_isDigit 8 = .ok (.ireturn, 1) := by decide +kernel
theorem dX9_takeWord_0 : decode cX9_takeWord 0 = .ok (.aload_n 0, 1) := by decide +kernel
theorem dX9_takeWord_1 : decode cX9_takeWord 1 = .ok (.invokevirtual 69, 3) := by decide +kernel
theorem dX9_takeWord_4 : decode cX9_takeWord 4 = .ok (.ifCond .ne 5, 3) := by decide +kernel
theorem dX9_takeWord_7 : decode cX9_takeWord 7 = .ok (.iconst 0, 1) := by decide +kernel
theorem dX9_takeWord_8 : decode cX9_takeWord 8 = .ok (.ireturn, 1) := by decide +kernel
theorem dX9_takeWord_9 : decode cX9_takeWord 9 = .ok (.aload_n 0, 1) := by decide +kernel
theorem dX9_takeWord_10 : decode cX9_takeWord 10 = .ok (.invokevirtual 73, 3) := by decide +kernel
theorem dX9_takeWord_13 : decode cX9_takeWord 13 = .ok (.pop, 1) := by decide +kernel
theorem dX9_takeWord_14 : decode cX9_takeWord 14 = .ok (.iconst 0, 1) := by decide +kernel
theorem dX9_takeWord_15 : decode cX9_takeWord 15 = .ok (.istore_n 2, 1) := by decide +kernel
theorem dX9_takeWord_16 : decode cX9_takeWord 16 = .ok (.iload_n 2, 1) := by decide +kernel
theorem dX9_takeWord_17 : decode cX9_takeWord 17 = .ok (.aload_n 1, 1) := by decide +kernel
theorem dX9_takeWord_18 : decode cX9_takeWord 18 = .ok (.invokevirtual 77, 3) := by decide +kernel
theorem dX9_takeWord_21 : decode cX9_takeWord 21 = .ok (.if_icmp .ge 27, 3) := by decide +kernel
theorem dX9_takeWord_24 : decode cX9_takeWord 24 = .ok (.aload_n 0, 1) := by decide +kernel
theorem dX9_takeWord_25 : decode cX9_takeWord 25 = .ok (.aload_n 0, 1) := by decide +kernel
theorem dX9_takeWord_26 : decode cX9_takeWord 26 = .ok (.getfield 53, 3) := by decide +kernel
theorem dX9_takeWord_29 : decode cX9_takeWord 29 = .ok (.iload_n 2, 1) := by decide +kernel
theorem dX9_takeWord_30 : decode cX9_takeWord 30 = .ok (.iadd, 1) := by decide +kernel
theorem dX9_takeWord_31 : decode cX9_takeWord 31 = .ok (.invokevirtual 56, 3) := by decide +kernel
theorem dX9_takeWord_34 : decode cX9_takeWord 34 = .ok (.aload_n 1, 1) := by decide +kernel
theorem dX9_takeWord_35 : decode cX9_takeWord 35 = .ok (.iload_n 2, 1) := by decide +kernel
theorem dX9_takeWord_36 : decode cX9_takeWord 36 = .ok (.invokevirtual 82, 3) := by decide +kernel
theorem dX9_takeWord_39 : decode cX9_takeWord 39 = .ok (.if_icmp .ne 9, 3) := by decide +kernel
theorem dX9_takeWord_42 : decode cX9_takeWord 42 = .ok (.iinc 2 1, 3) := by decide +kernel
theorem dX9_takeWord_45 : decode cX9_takeWord 45 = .ok (.goto (-29), 3) := by decide +kernel
theorem dX9_takeWord_48 : decode cX9_takeWord 48 = .ok (.iload_n 2, 1) := by decide +kernel
theorem dX9_takeWord_49 : decode cX9_takeWord 49 = .ok (.aload_n 1, 1) := by decide +kernel
theorem dX9_takeWord_50 : decode cX9_takeWord 50 = .ok (.invokevirtual 77, 3) := by decide +kernel
theorem dX9_takeWord_53 : decode cX9_takeWord 53 = .ok (.if_icmp .lt 23, 3) := by decide +kernel
theorem dX9_takeWord_56 : decode cX9_takeWord 56 = .ok (.aload_n 0, 1) := by decide +kernel
theorem dX9_takeWord_57 : decode cX9_takeWord 57 = .ok (.aload_n 0, 1) := by decide +kernel
theorem dX9_takeWord_58 : decode cX9_takeWord 58 = .ok (.getfield 53, 3) := by decide +kernel
theorem dX9_takeWord_61 : decode cX9_takeWord 61 = .ok (.iload_n 2, 1) := by decide +kernel
theorem dX9_takeWord_62 : decode cX9_takeWord 62 = .ok (.iadd, 1) := by decide +kernel
theorem dX9_takeWord_63 : decode cX9_takeWord 63 = .ok (.invokevirtual 56, 3) := by decide +kernel
theorem dX9_takeWord_66 : decode cX9_takeWord 66 = .ok (.bipush 97, 2) := by decide +kernel
theorem dX9_takeWord_68 : decode cX9_takeWord 68 = .ok (.bipush 122, 2) := by decide +kernel
theorem dX9_takeWord_70 : decode cX9_takeWord 70 = .ok (.invokestatic 65, 3) := by decide +kernel
theorem dX9_takeWord_73 : decode cX9_takeWord 73 = .ok (.ifCond .eq 5, 3) := by decide +kernel
theorem dX9_takeWord_76 : decode cX9_takeWord 76 = .ok (.iconst 0, 1) := by decide +kernel
theorem dX9_takeWord_77 : decode cX9_takeWord 77 = .ok (.ireturn, 1) := by decide +kernel
theorem dX9_takeWord_78 : decode cX9_takeWord 78 = .ok (.aload_n 0, 1) := by decide +kernel
theorem dX9_takeWord_79 : decode cX9_takeWord 79 = .ok (.dup, 1) := by decide +kernel
theorem dX9_takeWord_80 : decode cX9_takeWord 80 = .ok (.getfield 53, 3) := by decide +kernel
theorem dX9_takeWord_83 : decode cX9_takeWord 83 = .ok (.iload_n 2, 1) := by decide +kernel
theorem dX9_takeWord_84 : decode cX9_takeWord 84 = .ok (.iadd, 1) := by decide +kernel
theorem dX9_takeWord_85 : decode cX9_takeWord 85 = .ok (.putfield 53, 3) := by decide +kernel
theorem dX9_takeWord_88 : decode cX9_takeWord 88 = .ok (.iconst 1, 1) := by decide +kernel
theorem dX9_takeWord_89 : decode cX9_takeWord 89 = .ok (.ireturn, 1) := by decide +kernel
theorem dX9_expect_0 : decode cX9_expect 0 = .ok (.aload_n 0, 1) := by decide +kernel
theorem dX9_expect_1 : decode cX9_expect 1 = .ok (.invokevirtual 69, 3) := by decide +kernel
theorem dX9_expect_4 : decode cX9_expect 4 = .ok (.ifCond .ne 4, 3) := by decide +kernel
theorem dX9_expect_7 : decode cX9_expect 7 = .ok (.return_, 1) := by decide +kernel
theorem dX9_expect_8 : decode cX9_expect 8 = .ok (.aload_n 0, 1) := by decide +kernel
theorem dX9_expect_9 : decode cX9_expect 9 = .ok (.invokevirtual 73, 3) := by decide +kernel
theorem dX9_expect_12 : decode cX9_expect 12 = .ok (.iload_n 1, 1) := by decide +kernel
theorem dX9_expect_13 : decode cX9_expect 13 = .ok (.if_icmp .ne 16, 3) := by decide +kernel
theorem dX9_expect_16 : decode cX9_expect 16 = .ok (.aload_n 0, 1) := by decide +kernel
theorem dX9_expect_17 : decode cX9_expect 17 = .ok (.dup, 1) := by decide +kernel
theorem dX9_expect_18 : decode cX9_expect 18 = .ok (.getfield 53, 3) := by decide +kernel
theorem dX9_expect_21 : decode cX9_expect 21 = .ok (.iconst 1, 1) := by decide +kernel
theorem dX9_expect_22 : decode cX9_expect 22 = .ok (.iadd, 1) := by decide +kernel
theorem dX9_expect_23 : decode cX9_expect 23 = .ok (.putfield 53, 3) := by decide +kernel
theorem dX9_expect_26 : decode cX9_expect 26 = .ok (.goto 13, 3) := by decide +kernel
theorem dX9_expect_29 : decode cX9_expect 29 = .ok (.aload_n 0, 1) := by decide +kernel
theorem dX9_expect_30 : decode cX9_expect 30 = .ok (.bipush (-2), 2) := by decide +kernel
theorem dX9_expect_32 : decode cX9_expect 32 = .ok (.aload_n 0, 1) := by decide +kernel
theorem dX9_expect_33 : decode cX9_expect 33 = .ok (.getfield 53, 3) := by decide +kernel
theorem dX9_expect_36 : decode cX9_expect 36 = .ok (.invokevirtual 86, 3) := by decide +kernel
theorem dX9_expect_39 : decode cX9_expect 39 = .ok (.return_, 1) := by decide +kernel
theorem dX9_number_0 : decode cX9_number 0 = .ok (.aload_n 0, 1) := by decide +kernel
theorem dX9_number_1 : decode cX9_number 1 = .ok (.invokevirtual 69, 3) := by decide +kernel
theorem dX9_number_4 : decode cX9_number 4 = .ok (.ifCond .ne 5, 3) := by decide +kernel
theorem dX9_number_7 : decode cX9_number 7 = .ok (.iconst 0, 1) := by decide +kernel
theorem dX9_number_8 : decode cX9_number 8 = .ok (.ireturn, 1) := by decide +kernel
theorem dX9_number_9 : decode cX9_number 9 = .ok (.aload_n 0, 1) := by decide +kernel
theorem dX9_number_10 : decode cX9_number 10 = .ok (.invokevirtual 73, 3) := by decide +kernel
theorem dX9_number_13 : decode cX9_number 13 = .ok (.invokestatic 90, 3) := by decide +kernel
theorem dX9_number_16 : decode cX9_number 16 = .ok (.ifCond .ne 15, 3) := by decide +kernel
theorem dX9_number_19 : decode cX9_number 19 = .ok (.aload_n 0, 1) := by decide +kernel
theorem dX9_number_20 : decode cX9_number 20 = .ok (.bipush (-2), 2) := by decide +kernel
theorem dX9_number_22 : decode cX9_number 22 = .ok (.aload_n 0, 1) := by decide +kernel
theorem dX9_number_23 : decode cX9_number 23 = .ok (.getfield 53, 3) := by decide +kernel
theorem dX9_number_26 : decode cX9_number 26 = .ok (.invokevirtual 86, 3) := by decide +kernel
theorem dX9_number_29 : decode cX9_number 29 = .ok (.iconst 0, 1) := by decide +kernel
theorem dX9_number_30 : decode cX9_number 30 = .ok (.ireturn, 1) := by decide +kernel
theorem dX9_number_31 : decode cX9_number 31 = .ok (.aload_n 0, 1) := by decide +kernel
theorem dX9_number_32 : decode cX9_number 32 = .ok (.aload_n 0, 1) := by decide +kernel
theorem dX9_number_33 : decode cX9_number 33 = .ok (.getfield 53, 3) := by decide +kernel
theorem dX9_number_36 : decode cX9_number 36 = .ok (.putfield 94, 3) := by decide +kernel
theorem dX9_number_39 : decode cX9_number 39 = .ok (.iconst 0, 1) := by decide +kernel
theorem dX9_number_40 : decode cX9_number 40 = .ok (.istore_n 3, 1) := by decide +kernel
theorem dX9_number_41 : decode cX9_number 41 = .ok (.aload_n 0, 1) := by decide +kernel
theorem dX9_number_42 : decode cX9_number 42 = .ok (.aload_n 0, 1) := by decide +kernel
theorem dX9_number_43 : decode cX9_number 43 = .ok (.getfield 53, 3) := by decide +kernel
theorem dX9_number_46 : decode cX9_number 46 = .ok (.invokevirtual 56, 3) := by decide +kernel
theorem dX9_number_49 : decode cX9_number 49 = .ok (.invokestatic 90, 3) := by decide +kernel
theorem dX9_number_52 : decode cX9_number 52 = .ok (.ifCond .eq 38, 3) := by decide +kernel
theorem dX9_number_55 : decode cX9_number 55 = .ok (.ldc 97, 2) := by decide +kernel
theorem dX9_number_57 : decode cX9_number 57 = .ok (.bipush 10, 2) := by decide +kernel
theorem dX9_number_59 : decode cX9_number 59 = .ok (.iload_n 3, 1) := by decide +kernel
theorem dX9_number_60 : decode cX9_number 60 = .ok (.imul, 1) := by decide +kernel
theorem dX9_number_61 : decode cX9_number 61 = .ok (.aload_n 0, 1) := by decide +kernel
theorem dX9_number_62 : decode cX9_number 62 = .ok (.aload_n 0, 1) := by decide +kernel
theorem dX9_number_63 : decode cX9_number 63 = .ok (.getfield 53, 3) := by decide +kernel
theorem dX9_number_66 : decode cX9_number 66 = .ok (.invokevirtual 56, 3) := by decide +kernel
theorem dX9_number_69 : decode cX9_number 69 = .ok (.iadd, 1) := by decide +kernel
theorem dX9_number_70 : decode cX9_number 70 = .ok (.bipush 48, 2) := by decide +kernel
theorem dX9_number_72 : decode cX9_number 72 = .ok (.isub, 1) := by decide +kernel
theorem dX9_number_73 : decode cX9_number 73 = .ok (.invokestatic 98, 3) := by decide +kernel
theorem dX9_number_76 : decode cX9_number 76 = .ok (.istore_n 3, 1) := by decide +kernel
theorem dX9_number_77 : decode cX9_number 77 = .ok (.aload_n 0, 1) := by decide +kernel
theorem dX9_number_78 : decode cX9_number 78 = .ok (.dup, 1) := by decide +kernel
theorem dX9_number_79 : decode cX9_number 79 = .ok (.getfield 53, 3) := by decide +kernel
theorem dX9_number_82 : decode cX9_number 82 = .ok (.iconst 1, 1) := by decide +kernel
theorem dX9_number_83 : decode cX9_number 83 = .ok (.iadd, 1) := by decide +kernel
theorem dX9_number_84 : decode cX9_number 84 = .ok (.putfield 53, 3) := by decide +kernel
theorem dX9_number_87 : decode cX9_number 87 = .ok (.goto (-46), 3) := by decide +kernel
theorem dX9_number_90 : decode cX9_number 90 = .ok (.iload_n 3, 1) := by decide +kernel
theorem dX9_number_91 : decode cX9_number 91 = .ok (.iload_n 1, 1) := by decide +kernel
theorem dX9_number_92 : decode cX9_number 92 = .ok (.iload_n 2, 1) := by decide +kernel
theorem dX9_number_93 : decode cX9_number 93 = .ok (.invokestatic 65, 3) := by decide +kernel
theorem dX9_number_96 : decode cX9_number 96 = .ok (.ifCond .ne 13, 3) := by decide +kernel
theorem dX9_number_99 : decode cX9_number 99 = .ok (.aload_n 0, 1) := by decide +kernel
theorem dX9_number_100 : decode cX9_number 100 = .ok (.bipush (-3), 2) := by decide +kernel
theorem dX9_number_102 : decode cX9_number 102 = .ok (.aload_n 0, 1) := by decide +kernel
theorem dX9_number_103 : decode cX9_number 103 = .ok (.getfield 94, 3) := by decide +kernel
theorem dX9_number_106 : decode cX9_number 106 = .ok (.invokevirtual 86, 3) := by decide +kernel
theorem dX9_number_109 : decode cX9_number 109 = .ok (.aload_n 0, 1) := by decide +kernel
theorem dX9_number_110 : decode cX9_number 110 = .ok (.invokevirtual 69, 3) := by decide +kernel
theorem dX9_number_113 : decode cX9_number 113 = .ok (.ifCond .eq 7, 3) := by decide +kernel
theorem dX9_number_116 : decode cX9_number 116 = .ok (.iload_n 3, 1) := by decide +kernel
theorem dX9_number_117 : decode cX9_number 117 = .ok (.goto 4, 3) := by decide +kernel
theorem dX9_number_120 : decode cX9_number 120 = .ok (.iconst 0, 1) := by decide +kernel
theorem dX9_number_121 : decode cX9_number 121 = .ok (.ireturn, 1) := by decide +kernel
theorem dX9_emit_0 : decode cX9_emit 0 = .ok (.aload_n 0, 1) := by decide +kernel
theorem dX9_emit_1 : decode cX9_emit 1 = .ok (.invokevirtual 69, 3) := by decide +kernel
theorem dX9_emit_4 : decode cX9_emit 4 = .ok (.ifCond .ne 4, 3) := by decide +kernel
theorem dX9_emit_7 : decode cX9_emit 7 = .ok (.return_, 1) := by decide +kernel
theorem dX9_emit_8 : decode cX9_emit 8 = .ok (.aload_n 0, 1) := by decide +kernel
theorem dX9_emit_9 : decode cX9_emit 9 = .ok (.getfield 24, 3) := by decide +kernel
theorem dX9_emit_12 : decode cX9_emit 12 = .ok (.sipush 183, 3) := by decide +kernel
theorem dX9_emit_15 : decode cX9_emit 15 = .ok (.aload_n 0, 1) := by decide +kernel
theorem dX9_emit_16 : decode cX9_emit 16 = .ok (.getfield 24, 3) := by decide +kernel
theorem dX9_emit_19 : decode cX9_emit 19 = .ok (.bipush 14, 2) := by decide +kernel
theorem dX9_emit_21 : decode cX9_emit 21 = .ok (.iaload, 1) := by decide +kernel
theorem dX9_emit_22 : decode cX9_emit 22 = .ok (.iadd, 1) := by decide +kernel
theorem dX9_emit_23 : decode cX9_emit 23 = .ok (.iload_n 1, 1) := by decide +kernel
theorem dX9_emit_24 : decode cX9_emit 24 = .ok (.iastore, 1) := by decide +kernel
theorem dX9_emit_25 : decode cX9_emit 25 = .ok (.aload_n 0, 1) := by decide +kernel
theorem dX9_emit_26 : decode cX9_emit 26 = .ok (.getfield 24, 3) := by decide +kernel
theorem dX9_emit_29 : decode cX9_emit 29 = .ok (.bipush 14, 2) := by decide +kernel
theorem dX9_emit_31 : decode cX9_emit 31 = .ok (.dup2, 1) := by decide +kernel
theorem dX9_emit_32 : decode cX9_emit 32 = .ok (.iaload, 1) := by decide +kernel
theorem dX9_emit_33 : decode cX9_emit 33 = .ok (.iconst 1, 1) := by decide +kernel
theorem dX9_emit_34 : decode cX9_emit 34 = .ok (.iadd, 1) := by decide +kernel
theorem dX9_emit_35 : decode cX9_emit 35 = .ok (.iastore, 1) := by decide +kernel
theorem dX9_emit_36 : decode cX9_emit 36 = .ok (.return_, 1) := by decide +kernel
theorem dX9_factor_0 : decode cX9_factor 0 = .ok (.aload_n 0, 1) := by decide +kernel
theorem dX9_factor_1 : decode cX9_factor 1 = .ok (.invokevirtual 69, 3) := by decide +kernel
theorem dX9_factor_4 : decode cX9_factor 4 = .ok (.ifCond .ne 4, 3) := by decide +kernel
theorem dX9_factor_7 : decode cX9_factor 7 = .ok (.return_, 1) := by decide +kernel
theorem dX9_factor_8 : decode cX9_factor 8 = .ok (.aload_n 0, 1) := by decide +kernel
theorem dX9_factor_9 : decode cX9_factor 9 = .ok (.invokevirtual 73, 3) := by decide +kernel
theorem dX9_factor_12 : decode cX9_factor 12 = .ok (.istore_n 1, 1) := by decide +kernel
theorem dX9_factor_13 : decode cX9_factor 13 = .ok (.iload_n 1, 1) := by decide +kernel
theorem dX9_factor_14 : decode cX9_factor 14 = .ok (.bipush 40, 2) := by decide +kernel
theorem dX9_factor_16 : decode cX9_factor 16 = .ok (.if_icmp .ne 62, 3) := by decide +kernel
theorem dX9_factor_19 : decode cX9_factor 19 = .ok (.aload_n 0, 1) := by decide +kernel
theorem dX9_factor_20 : decode cX9_factor 20 = .ok (.getfield 102, 3) := by decide +kernel
theorem dX9_factor_23 : decode cX9_factor 23 = .ok (.iconst 4, 1) := by decide +kernel
theorem dX9_factor_24 : decode cX9_factor 24 = .ok (.if_icmp .ne 13, 3) := by decide +kernel
theorem dX9_factor_27 : decode cX9_factor 27 = .ok (.aload_n 0, 1) := by decide +kernel
theorem dX9_factor_28 : decode cX9_factor 28 = .ok (.bipush (-5), 2) := by decide +kernel
theorem dX9_factor_30 : decode cX9_factor 30 = .ok (.aload_n 0, 1) := by decide +kernel
theorem dX9_factor_31 : decode cX9_factor 31 = .ok (.getfield 53, 3) := by decide +kernel
theorem dX9_factor_34 : decode cX9_factor 34 = .ok (.invokevirtual 86, 3) := by decide +kernel
theorem dX9_factor_37 : decode cX9_factor 37 = .ok (.aload_n 0, 1) := by decide +kernel
theorem dX9_factor_38 : decode cX9_factor 38 = .ok (.dup, 1) := by decide +kernel
theorem dX9_factor_39 : decode cX9_factor 39 = .ok (.getfield 53, 3) := by decide +kernel
theorem dX9_factor_42 : decode cX9_factor 42 = .ok (.iconst 1, 1) := by decide +kernel
theorem dX9_factor_43 : decode cX9_factor 43 = .ok (.iadd, 1) := by decide +kernel
theorem dX9_factor_44 : decode cX9_factor 44 = .ok (.putfield 53, 3) := by decide +kernel
theorem dX9_factor_47 : decode cX9_factor 47 = .ok (.aload_n 0, 1) := by decide +kernel
theorem dX9_factor_48 : decode cX9_factor 48 = .ok (.dup, 1) := by decide +kernel
theorem dX9_factor_49 : decode cX9_factor 49 = .ok (.getfield 102, 3) := by decide +kernel
theorem dX9_factor_52 : decode cX9_factor 52 = .ok (.iconst 1, 1) := by decide +kernel
theorem dX9_factor_53 : decode cX9_factor 53 = .ok (.iadd, 1) := by decide +kernel
theorem dX9_factor_54 : decode cX9_factor 54 = .ok (.putfield 102, 3) := by decide +kernel
theorem dX9_factor_57 : decode cX9_factor 57 = .ok (.aload_n 0, 1) := by decide +kernel
theorem dX9_factor_58 : decode cX9_factor 58 = .ok (.invokevirtual 105, 3) := by decide +kernel
theorem dX9_factor_61 : decode cX9_factor 61 = .ok (.aload_n 0, 1) := by decide +kernel
theorem dX9_factor_62 : decode cX9_factor 62 = .ok (.bipush 41, 2) := by decide +kernel
theorem dX9_factor_64 : decode cX9_factor 64 = .ok (.invokevirtual 108, 3) := by decide +kernel
theorem dX9_factor_67 : decode cX9_factor 67 = .ok (.aload_n 0, 1) := by decide +kernel
theorem dX9_factor_68 : decode cX9_factor 68 = .ok (.dup, 1) := by decide +kernel
theorem dX9_factor_69 : decode cX9_factor 69 = .ok (.getfield 102, 3) := by decide +kernel
theorem dX9_factor_72 : decode cX9_factor 72 = .ok (.iconst 1, 1) := by decide +kernel
theorem dX9_factor_73 : decode cX9_factor 73 = .ok (.isub, 1) := by decide +kernel
theorem dX9_factor_74 : decode cX9_factor 74 = .ok (.putfield 102, 3) := by decide +kernel
theorem dX9_factor_77 : decode cX9_factor 77 = .ok (.return_, 1) := by decide +kernel
theorem dX9_factor_78 : decode cX9_factor 78 = .ok (.iload_n 1, 1) := by decide +kernel
theorem dX9_factor_79 : decode cX9_factor 79 = .ok (.invokestatic 90, 3) := by decide +kernel
theorem dX9_factor_82 : decode cX9_factor 82 = .ok (.ifCond .eq 7, 3) := by decide +kernel
theorem dX9_factor_85 : decode cX9_factor 85 = .ok (.iconst (-1), 1) := by decide +kernel
theorem dX9_factor_86 : decode cX9_factor 86 = .ok (.goto 56, 3) := by decide +kernel
theorem dX9_factor_89 : decode cX9_factor 89 = .ok (.aload_n 0, 1) := by decide +kernel
theorem dX9_factor_90 : decode cX9_factor 90 = .ok (.ldc 112, 2) := by decide +kernel
theorem dX9_factor_92 : decode cX9_factor 92 = .ok (.invokevirtual 114, 3) := by decide +kernel
theorem dX9_factor_95 : decode cX9_factor 95 = .ok (.ifCond .eq 7, 3) := by decide +kernel
theorem dX9_factor_98 : decode cX9_factor 98 = .ok (.iconst 0, 1) := by decide +kernel
theorem dX9_factor_99 : decode cX9_factor 99 = .ok (.goto 43, 3) := by decide +kernel
theorem dX9_factor_102 : decode cX9_factor 102 = .ok (.aload_n 0, 1) := by decide +kernel
theorem dX9_factor_103 : decode cX9_factor 103 = .ok (.ldc 118, 2) := by decide +kernel
theorem dX9_factor_105 : decode cX9_factor 105 = .ok (.invokevirtual 114, 3) := by decide +kernel
theorem dX9_factor_108 : decode cX9_factor 108 = .ok (.ifCond .eq 7, 3) := by decide +kernel
theorem dX9_factor_111 : decode cX9_factor 111 = .ok (.iconst 1, 1) := by decide +kernel
theorem dX9_factor_112 : decode cX9_factor 112 = .ok (.goto 30, 3) := by decide +kernel
theorem dX9_factor_115 : decode cX9_factor 115 = .ok (.aload_n 0, 1) := by decide +kernel
theorem dX9_factor_116 : decode cX9_factor 116 = .ok (.ldc 120, 2) := by decide +kernel
theorem dX9_factor_118 : decode cX9_factor 118 = .ok (.invokevirtual 114, 3) := by decide +kernel
theorem dX9_factor_121 : decode cX9_factor 121 = .ok (.ifCond .eq 7, 3) := by decide +kernel
theorem dX9_factor_124 : decode cX9_factor 124 = .ok (.iconst 2, 1) := by decide +kernel
theorem dX9_factor_125 : decode cX9_factor 125 = .ok (.goto 17, 3) := by decide +kernel
theorem dX9_factor_128 : decode cX9_factor 128 = .ok (.aload_n 0, 1) := by decide +kernel
theorem dX9_factor_129 : decode cX9_factor 129 = .ok (.ldc 122, 2) := by decide +kernel
theorem dX9_factor_131 : decode cX9_factor 131 = .ok (.invokevirtual 114, 3) := by decide +kernel
theorem dX9_factor_134 : decode cX9_factor 134 = .ok (.ifCond .eq 7, 3) := by decide +kernel
theorem dX9_factor_137 : decode cX9_factor 137 = .ok (.iconst 3, 1) := by decide +kernel
theorem dX9_factor_138 : decode cX9_factor 138 = .ok (.goto 4, 3) := by decide +kernel
theorem dX9_factor_141 : decode cX9_factor 141 = .ok (.iconst (-1), 1) := by decide +kernel
theorem dX9_factor_142 : decode cX9_factor 142 = .ok (.istore_n 2, 1) := by decide +kernel
theorem dX9_factor_143 : decode cX9_factor 143 = .ok (.iload_n 2, 1) := by decide +kernel
theorem dX9_factor_144 : decode cX9_factor 144 = .ok (.ifCond .ge 14, 3) := by decide +kernel
theorem dX9_factor_147 : decode cX9_factor 147 = .ok (.aload_n 0, 1) := by decide +kernel
theorem dX9_factor_148 : decode cX9_factor 148 = .ok (.iconst 0, 1) := by decide +kernel
theorem dX9_factor_149 : decode cX9_factor 149 = .ok (.sipush 9999, 3) := by decide +kernel
theorem dX9_factor_152 : decode cX9_factor 152 = .ok (.invokevirtual 124, 3) := by decide +kernel
theorem dX9_factor_155 : decode cX9_factor 155 = .ok (.goto 4, 3) := by decide +kernel
theorem dX9_factor_158 : decode cX9_factor 158 = .ok (.iload_n 2, 1) := by decide +kernel
theorem dX9_factor_159 : decode cX9_factor 159 = .ok (.istore_n 3, 1) := by decide +kernel
theorem dX9_factor_160 : decode cX9_factor 160 = .ok (.aload_n 0, 1) := by decide +kernel
theorem dX9_factor_161 : decode cX9_factor 161 = .ok (.iload_n 2, 1) := by decide +kernel
theorem dX9_factor_162 : decode cX9_factor 162 = .ok (.ifCond .ge 7, 3) := by decide +kernel
theorem dX9_factor_165 : decode cX9_factor 165 = .ok (.iconst 0, 1) := by decide +kernel
theorem dX9_factor_166 : decode cX9_factor 166 = .ok (.goto 4, 3) := by decide +kernel
theorem dX9_factor_169 : decode cX9_factor 169 = .ok (.iconst 1, 1) := by decide +kernel
theorem dX9_factor_170 : decode cX9_factor 170 = .ok (.invokevirtual 127, 3) := by decide +kernel
theorem dX9_factor_173 : decode cX9_factor 173 = .ok (.aload_n 0, 1) := by decide +kernel
theorem dX9_factor_174 : decode cX9_factor 174 = .ok (.iload_n 3, 1) := by decide +kernel
theorem dX9_factor_175 : decode cX9_factor 175 = .ok (.invokevirtual 127, 3) := by decide +kernel
theorem dX9_factor_178 : decode cX9_factor 178 = .ok (.return_, 1) := by decide +kernel
theorem dX9_term_0 : decode cX9_term 0 = .ok (.aload_n 0, 1) := by decide +kernel
theorem dX9_term_1 : decode cX9_term 1 = .ok (.invokevirtual 130, 3) := by decide +kernel
theorem dX9_term_4 : decode cX9_term 4 = .ok (.aload_n 0, 1) := by decide +kernel
theorem dX9_term_5 : decode cX9_term 5 = .ok (.invokevirtual 69, 3) := by decide +kernel
theorem dX9_term_8 : decode cX9_term 8 = .ok (.ifCond .eq 66, 3) := by decide +kernel
theorem dX9_term_11 : decode cX9_term 11 = .ok (.aload_n 0, 1) := by decide +kernel
theorem dX9_term_12 : decode cX9_term 12 = .ok (.invokevirtual 73, 3) := by decide +kernel
theorem dX9_term_15 : decode cX9_term 15 = .ok (.bipush 42, 2) := by decide +kernel
theorem dX9_term_17 : decode cX9_term 17 = .ok (.if_icmp .eq 12, 3) := by decide +kernel
theorem dX9_term_20 : decode cX9_term 20 = .ok (.aload_n 0, 1) := by decide +kernel
theorem dX9_term_21 : decode cX9_term 21 = .ok (.invokevirtual 73, 3) := by decide +kernel
theorem dX9_term_24 : decode cX9_term 24 = .ok (.bipush 47, 2) := by decide +kernel
theorem dX9_term_26 : decode cX9_term 26 = .ok (.if_icmp .ne 48, 3) := by decide +kernel
theorem dX9_term_29 : decode cX9_term 29 = .ok (.aload_n 0, 1) := by decide +kernel
theorem dX9_term_30 : decode cX9_term 30 = .ok (.invokevirtual 73, 3) := by decide +kernel
theorem dX9_term_33 : decode cX9_term 33 = .ok (.bipush 42, 2) := by decide +kernel
theorem dX9_term_35 : decode cX9_term 35 = .ok (.if_icmp .ne 7, 3) := by decide +kernel
theorem dX9_term_38 : decode cX9_term 38 = .ok (.iconst 1, 1) := by decide +kernel
theorem dX9_term_39 : decode cX9_term 39 = .ok (.goto 4, 3) := by decide +kernel
theorem dX9_term_42 : decode cX9_term 42 = .ok (.iconst 0, 1) := by decide +kernel
theorem dX9_term_43 : decode cX9_term 43 = .ok (.istore_n 1, 1) := by decide +kernel
theorem dX9_term_44 : decode cX9_term 44 = .ok (.aload_n 0, 1) := by decide +kernel
theorem dX9_term_45 : decode cX9_term 45 = .ok (.dup, 1) := by decide +kernel
theorem dX9_term_46 : decode cX9_term 46 = .ok (.getfield 53, 3) := by decide +kernel
theorem dX9_term_49 : decode cX9_term 49 = .ok (.iconst 1, 1) := by decide +kernel
theorem dX9_term_50 : decode cX9_term 50 = .ok (.iadd, 1) := by decide +kernel
theorem dX9_term_51 : decode cX9_term 51 = .ok (.putfield 53, 3) := by decide +kernel
theorem dX9_term_54 : decode cX9_term 54 = .ok (.aload_n 0, 1) := by decide +kernel
theorem dX9_term_55 : decode cX9_term 55 = .ok (.invokevirtual 130, 3) := by decide +kernel
theorem dX9_term_58 : decode cX9_term 58 = .ok (.aload_n 0, 1) := by decide +kernel
theorem dX9_term_59 : decode cX9_term 59 = .ok (.iload_n 1, 1) := by decide +kernel
theorem dX9_term_60 : decode cX9_term 60 = .ok (.ifCond .eq 7, 3) := by decide +kernel
theorem dX9_term_63 : decode cX9_term 63 = .ok (.iconst 4, 1) := by decide +kernel
theorem dX9_term_64 : decode cX9_term 64 = .ok (.goto 4, 3) := by decide +kernel
theorem dX9_term_67 : decode cX9_term 67 = .ok (.iconst 5, 1) := by decide +kernel
theorem dX9_term_68 : decode cX9_term 68 = .ok (.invokevirtual 127, 3) := by decide +kernel
theorem dX9_term_71 : decode cX9_term 71 = .ok (.goto (-67), 3) := by decide +kernel
theorem dX9_term_74 : decode cX9_term 74 = .ok (.return_, 1) := by decide +kernel
theorem dX9_readSum_0 : decode cX9_readSum 0 = .ok (.aload_n 0, 1) := by decide +kernel
theorem dX9_readSum_1 : decode cX9_readSum 1 = .ok (.invokevirtual 133, 3) := by decide +kernel
theorem dX9_readSum_4 : decode cX9_readSum 4 = .ok (.aload_n 0, 1) := by decide +kernel
theorem dX9_readSum_5 : decode cX9_readSum 5 = .ok (.invokevirtual 69, 3) := by decide +kernel
theorem dX9_readSum_8 : decode cX9_readSum 8 = .ok (.ifCond .eq 66, 3) := by decide +kernel
theorem dX9_readSum_11 : decode cX9_readSum 11 = .ok (.aload_n 0, 1) := by decide +kernel
theorem dX9_readSum_12 : decode cX9_readSum 12 = .ok (.invokevirtual 73, 3) := by decide +kernel
theorem dX9_readSum_15 : decode cX9_readSum 15 = .ok (.bipush 43, 2) := by decide +kernel
theorem dX9_readSum_17 : decode cX9_readSum 17 = .ok (.if_icmp .eq 12, 3) := by decide +kernel
theorem dX9_readSum_20 : decode cX9_readSum 20 = .ok (.aload_n 0, 1) := by decide +kernel
theorem dX9_readSum_21 : decode cX9_readSum 21 = .ok (.invokevirtual 73, 3) := by decide +kernel
theorem dX9_readSum_24 : decode cX9_readSum 24 = .ok (.bipush 45, 2) := by decide +kernel
theorem dX9_readSum_26 : decode cX9_readSum 26 = .ok (.if_icmp .ne 48, 3) := by decide +kernel
theorem dX9_readSum_29 : decode cX9_readSum 29 = .ok (.aload_n 0, 1) := by decide +kernel
theorem dX9_readSum_30 : decode cX9_readSum 30 = .ok (.invokevirtual 73, 3) := by decide +kernel
theorem dX9_readSum_33 : decode cX9_readSum 33 = .ok (.bipush 43, 2) := by decide +kernel
theorem dX9_readSum_35 : decode cX9_readSum 35 = .ok (.if_icmp .ne 7, 3) := by decide +kernel
theorem dX9_readSum_38 : decode cX9_readSum 38 = .ok (.iconst 1, 1) := by decide +kernel
theorem dX9_readSum_39 : decode cX9_readSum 39 = .ok (.goto 4, 3) := by decide +kernel
theorem dX9_readSum_42 : decode cX9_readSum 42 = .ok (.iconst 0, 1) := by decide +kernel
theorem dX9_readSum_43 : decode cX9_readSum 43 = .ok (.istore_n 1, 1) := by decide +kernel
theorem dX9_readSum_44 : decode cX9_readSum 44 = .ok (.aload_n 0, 1) := by decide +kernel
theorem dX9_readSum_45 : decode cX9_readSum 45 = .ok (.dup, 1) := by decide +kernel
theorem dX9_readSum_46 : decode cX9_readSum 46 = .ok (.getfield 53, 3) := by decide +kernel
theorem dX9_readSum_49 : decode cX9_readSum 49 = .ok (.iconst 1, 1) := by decide +kernel
theorem dX9_readSum_50 : decode cX9_readSum 50 = .ok (.iadd, 1) := by decide +kernel
theorem dX9_readSum_51 : decode cX9_readSum 51 = .ok (.putfield 53, 3) := by decide +kernel
theorem dX9_readSum_54 : decode cX9_readSum 54 = .ok (.aload_n 0, 1) := by decide +kernel
theorem dX9_readSum_55 : decode cX9_readSum 55 = .ok (.invokevirtual 133, 3) := by decide +kernel
theorem dX9_readSum_58 : decode cX9_readSum 58 = .ok (.aload_n 0, 1) := by decide +kernel
theorem dX9_readSum_59 : decode cX9_readSum 59 = .ok (.iload_n 1, 1) := by decide +kernel
theorem dX9_readSum_60 : decode cX9_readSum 60 = .ok (.ifCond .eq 7, 3) := by decide +kernel
theorem dX9_readSum_63 : decode cX9_readSum 63 = .ok (.iconst 2, 1) := by decide +kernel
theorem dX9_readSum_64 : decode cX9_readSum 64 = .ok (.goto 4, 3) := by decide +kernel
theorem dX9_readSum_67 : decode cX9_readSum 67 = .ok (.iconst 3, 1) := by decide +kernel
theorem dX9_readSum_68 : decode cX9_readSum 68 = .ok (.invokevirtual 127, 3) := by decide +kernel
theorem dX9_readSum_71 : decode cX9_readSum 71 = .ok (.goto (-67), 3) := by decide +kernel
theorem dX9_readSum_74 : decode cX9_readSum 74 = .ok (.return_, 1) := by decide +kernel
theorem dX9_once_0 : decode cX9_once 0 = .ok (.aload_n 0, 1) := by decide +kernel
theorem dX9_once_1 : decode cX9_once 1 = .ok (.getfield 136, 3) := by decide +kernel
theorem dX9_once_4 : decode cX9_once 4 = .ok (.iload_n 1, 1) := by decide +kernel
theorem dX9_once_5 : decode cX9_once 5 = .ok (.ishr, 1) := by decide +kernel
theorem dX9_once_6 : decode cX9_once 6 = .ok (.iconst 1, 1) := by decide +kernel
theorem dX9_once_7 : decode cX9_once 7 = .ok (.iand, 1) := by decide +kernel
theorem dX9_once_8 : decode cX9_once 8 = .ok (.iconst 1, 1) := by decide +kernel
theorem dX9_once_9 : decode cX9_once 9 = .ok (.if_icmp .ne 10, 3) := by decide +kernel
theorem dX9_once_12 : decode cX9_once 12 = .ok (.aload_n 0, 1) := by decide +kernel
theorem dX9_once_13 : decode cX9_once 13 = .ok (.bipush (-2), 2) := by decide +kernel
theorem dX9_once_15 : decode cX9_once 15 = .ok (.iload_n 2, 1) := by decide +kernel
theorem dX9_once_16 : decode cX9_once 16 = .ok (.invokevirtual 86, 3) := by decide +kernel
theorem dX9_once_19 : decode cX9_once 19 = .ok (.aload_n 0, 1) := by decide +kernel
theorem dX9_once_20 : decode cX9_once 20 = .ok (.dup, 1) := by decide +kernel
theorem dX9_once_21 : decode cX9_once 21 = .ok (.getfield 136, 3) := by decide +kernel
theorem dX9_once_24 : decode cX9_once 24 = .ok (.iconst 1, 1) := by decide +kernel
theorem dX9_once_25 : decode cX9_once 25 = .ok (.iload_n 1, 1) := by decide +kernel
theorem dX9_once_26 : decode cX9_once 26 = .ok (.ishl, 1) := by decide +kernel
theorem dX9_once_27 : decode cX9_once 27 = .ok (.ior, 1) := by decide +kernel
theorem dX9_once_28 : decode cX9_once 28 = .ok (.putfield 136, 3) := by decide +kernel
theorem dX9_once_31 : decode cX9_once 31 = .ok (.return_, 1) := by decide +kernel
theorem dX9_signed_0 : decode cX9_signed 0 = .ok (.aload_n 0, 1) := by decide +kernel
theorem dX9_signed_1 : decode cX9_signed 1 = .ok (.invokevirtual 69, 3) := by decide +kernel
theorem dX9_signed_4 : decode cX9_signed 4 = .ok (.ifCond .ne 5, 3) := by decide +kernel
theorem dX9_signed_7 : decode cX9_signed 7 = .ok (.iconst 0, 1) := by decide +kernel
theorem dX9_signed_8 : decode cX9_signed 8 = .ok (.ireturn, 1) := by decide +kernel
theorem dX9_signed_9 : decode cX9_signed 9 = .ok (.aload_n 0, 1) := by decide +kernel
theorem dX9_signed_10 : decode cX9_signed 10 = .ok (.invokevirtual 73, 3) := by decide +kernel
theorem dX9_signed_13 : decode cX9_signed 13 = .ok (.istore_n 2, 1) := by decide +kernel
theorem dX9_signed_14 : decode cX9_signed 14 = .ok (.aload_n 0, 1) := by decide +kernel
theorem dX9_signed_15 : decode cX9_signed 15 = .ok (.getfield 53, 3) := by decide +kernel
theorem dX9_signed_18 : decode cX9_signed 18 = .ok (.istore_n 3, 1) := by decide +kernel
theorem dX9_signed_19 : decode cX9_signed 19 = .ok (.iload_n 2, 1) := by decide +kernel
theorem dX9_signed_20 : decode cX9_signed 20 = .ok (.bipush 45, 2) := by decide +kernel
theorem dX9_signed_22 : decode cX9_signed 22 = .ok (.if_icmp .eq 10, 3) := by decide +kernel
theorem dX9_signed_25 : decode cX9_signed 25 = .ok (.aload_n 0, 1) := by decide +kernel
theorem dX9_signed_26 : decode cX9_signed 26 = .ok (.iconst 0, 1) := by decide +kernel
theorem dX9_signed_27 : decode cX9_signed 27 = .ok (.iload_n 1, 1) := by decide +kernel
theorem dX9_signed_28 : decode cX9_signed 28 = .ok (.invokevirtual 124, 3) := by decide +kernel
theorem dX9_signed_31 : decode cX9_signed 31 = .ok (.ireturn, 1) := by decide +kernel
theorem dX9_signed_32 : decode cX9_signed 32 = .ok (.aload_n 0, 1) := by decide +kernel
theorem dX9_signed_33 : decode cX9_signed 33 = .ok (.dup, 1) := by decide +kernel
theorem dX9_signed_34 : decode cX9_signed 34 = .ok (.getfield 53, 3) := by decide +kernel
theorem dX9_signed_37 : decode cX9_signed 37 = .ok (.iconst 1, 1) := by decide +kernel
theorem dX9_signed_38 : decode cX9_signed 38 = .ok (.iadd, 1) := by decide +kernel
theorem dX9_signed_39 : decode cX9_signed 39 = .ok (.putfield 53, 3) := by decide +kernel
theorem dX9_signed_42 : decode cX9_signed 42 = .ok (.aload_n 0, 1) := by decide +kernel
theorem dX9_signed_43 : decode cX9_signed 43 = .ok (.iconst 0, 1) := by decide +kernel
theorem dX9_signed_44 : decode cX9_signed 44 = .ok (.ldc 97, 2) := by decide +kernel
theorem dX9_signed_46 : decode cX9_signed 46 = .ok (.invokevirtual 124, 3) := by decide +kernel
theorem dX9_signed_49 : decode cX9_signed 49 = .ok (.istore 4, 2) := by decide +kernel
theorem dX9_signed_51 : decode cX9_signed 51 = .ok (.aload_n 0, 1) := by decide +kernel
theorem dX9_signed_52 : decode cX9_signed 52 = .ok (.invokevirtual 69, 3) := by decide +kernel
theorem dX9_signed_55 : decode cX9_signed 55 = .ok (.ifCond .eq 16, 3) := by decide +kernel
theorem dX9_signed_58 : decode cX9_signed 58 = .ok (.iload 4, 2) := by decide +kernel
theorem dX9_signed_60 : decode cX9_signed 60 = .ok (.iload_n 1, 1) := by decide +kernel
theorem dX9_signed_61 : decode cX9_signed 61 = .ok (.if_icmp .le 10, 3) := by decide +kernel
theorem dX9_signed_64 : decode cX9_signed 64 = .ok (.aload_n 0, 1) := by decide +kernel
theorem dX9_signed_65 : decode cX9_signed 65 = .ok (.bipush (-3), 2) := by decide +kernel
theorem dX9_signed_67 : decode cX9_signed 67 = .ok (.iload_n 3, 1) := by decide +kernel
theorem dX9_signed_68 : decode cX9_signed 68 = .ok (.invokevirtual 86, 3) := by decide +kernel
theorem dX9_signed_71 : decode cX9_signed 71 = .ok (.iload 4, 2) := by decide +kernel
theorem dX9_signed_73 : decode cX9_signed 73 = .ok (.ineg, 1) := by decide +kernel
theorem dX9_signed_74 : decode cX9_signed 74 = .ok (.ireturn, 1) := by decide +kernel
theorem dX9_readClock_0 : decode cX9_readClock 0 = .ok (.aload_n 0, 1) := by decide +kernel
theorem dX9_readClock_1 : decode cX9_readClock 1 = .ok (.iconst 0, 1) := by decide +kernel
theorem dX9_readClock_2 : decode cX9_readClock 2 = .ok (.aload_n 0, 1) := by decide +kernel
theorem dX9_readClock_3 : decode cX9_readClock 3 = .ok (.getfield 24, 3) := by decide +kernel
theorem dX9_readClock_6 : decode cX9_readClock 6 = .ok (.iconst 0, 1) := by decide +kernel
theorem dX9_readClock_7 : decode cX9_readClock 7 = .ok (.iaload, 1) := by decide +kernel
theorem dX9_readClock_8 : decode cX9_readClock 8 = .ok (.iconst 1, 1) := by decide +kernel
theorem dX9_readClock_9 : decode cX9_readClock 9 = .ok (.isub, 1) := by decide +kernel
theorem dX9_readClock_10 : decode cX9_readClock 10 = .ok (.invokevirtual 124, 3) := by decide +kernel
theorem dX9_readClock_13 : decode cX9_readClock 13 = .ok (.istore_n 1, 1) := by decide +kernel
theorem dX9_readClock_14 : decode cX9_readClock 14 = .ok (.aload_n 0, 1) := by decide +kernel
theorem dX9_readClock_15 : decode cX9_readClock 15 = .ok (.invokevirtual 69, 3) := by decide +kernel
theorem dX9_readClock_18 : decode cX9_readClock 18 = .ok (.ifCond .eq 25, 3) := by decide +kernel
theorem dX9_readClock_21 : decode cX9_readClock 21 = .ok (.aload_n 0, 1) := by decide +kernel
theorem dX9_readClock_22 : decode cX9_readClock 22 = .ok (.getfield 139, 3) := by decide +kernel
theorem dX9_readClock_25 : decode cX9_readClock 25 = .ok (.iload_n 1, 1) := by decide +kernel
theorem dX9_readClock_26 : decode cX9_readClock 26 = .ok (.ishr, 1) := by decide +kernel
theorem dX9_readClock_27 : decode cX9_readClock 27 = .ok (.iconst 1, 1) := by decide +kernel
theorem dX9_readClock_28 : decode cX9_readClock 28 = .ok (.iand, 1) := by decide +kernel
theorem dX9_readClock_29 : decode cX9_readClock 29 = .ok (.iconst 1, 1) := by decide +kernel
theorem dX9_readClock_30 : decode cX9_readClock 30 = .ok (.if_icmp .ne 13, 3) := by decide +kernel
theorem dX9_readClock_33 : decode cX9_readClock 33 = .ok (.aload_n 0, 1) := by decide +kernel
theorem dX9_readClock_34 : decode cX9_readClock 34 = .ok (.bipush (-4), 2) := by decide +kernel
theorem dX9_readClock_36 : decode cX9_readClock 36 = .ok (.aload_n 0, 1) := by decide +kernel
theorem dX9_readClock_37 : decode cX9_readClock 37 = .ok (.getfield 94, 3) := by decide +kernel
theorem dX9_readClock_40 : decode cX9_readClock 40 = .ok (.invokevirtual 86, 3) := by decide +kernel
theorem dX9_readClock_43 : decode cX9_readClock 43 = .ok (.aload_n 0, 1) := by decide +kernel
theorem dX9_readClock_44 : decode cX9_readClock 44 = .ok (.sipush 999, 3) := by decide +kernel
theorem dX9_readClock_47 : decode cX9_readClock 47 = .ok (.invokevirtual 142, 3) := by decide +kernel
theorem dX9_readClock_50 : decode cX9_readClock 50 = .ok (.istore_n 2, 1) := by decide +kernel
theorem dX9_readClock_51 : decode cX9_readClock 51 = .ok (.aload_n 0, 1) := by decide +kernel
theorem dX9_readClock_52 : decode cX9_readClock 52 = .ok (.bipush 50, 2) := by decide +kernel
theorem dX9_readClock_54 : decode cX9_readClock 54 = .ok (.invokevirtual 142, 3) := by decide +kernel
theorem dX9_readClock_57 : decode cX9_readClock 57 = .ok (.istore_n 3, 1) := by decide +kernel
theorem dX9_readClock_58 : decode cX9_readClock 58 = .ok (.aload_n 0, 1) := by decide +kernel
theorem dX9_readClock_59 : decode cX9_readClock 59 = .ok (.invokevirtual 69, 3) := by decide +kernel
theorem dX9_readClock_62 : decode cX9_readClock 62 = .ok (.ifCond .ne 4, 3) := by decide +kernel
theorem dX9_readClock_65 : decode cX9_readClock 65 = .ok (.return_, 1) := by decide +kernel
theorem dX9_readClock_66 : decode cX9_readClock 66 = .ok (.aload_n 0, 1) := by decide +kernel
theorem dX9_readClock_67 : decode cX9_readClock 67 = .ok (.dup, 1) := by decide +kernel
theorem dX9_readClock_68 : decode cX9_readClock 68 = .ok (.getfield 139, 3) := by decide +kernel
theorem dX9_readClock_71 : decode cX9_readClock 71 = .ok (.iconst 1, 1) := by decide +kernel
theorem dX9_readClock_72 : decode cX9_readClock 72 = .ok (.iload_n 1, 1) := by decide +kernel
theorem dX9_readClock_73 : decode cX9_readClock 73 = .ok (.ishl, 1) := by decide +kernel
theorem dX9_readClock_74 : decode cX9_readClock 74 = .ok (.ior, 1) := by decide +kernel
theorem dX9_readClock_75 : decode cX9_readClock 75 = .ok (.putfield 139, 3) := by decide +kernel
theorem dX9_readClock_78 : decode cX9_readClock 78 = .ok (.aload_n 0, 1) := by decide +kernel
theorem dX9_readClock_79 : decode cX9_readClock 79 = .ok (.getfield 24, 3) := by decide +kernel
theorem dX9_readClock_82 : decode cX9_readClock 82 = .ok (.iload_n 1, 1) := by decide +kernel
theorem dX9_readClock_83 : decode cX9_readClock 83 = .ok (.invokestatic 43, 3) := by decide +kernel
theorem dX9_readClock_86 : decode cX9_readClock 86 = .ok (.iconst 1, 1) := by decide +kernel
theorem dX9_readClock_87 : decode cX9_readClock 87 = .ok (.iadd, 1) := by decide +kernel
theorem dX9_readClock_88 : decode cX9_readClock 88 = .ok (.iload_n 2, 1) := by decide +kernel
theorem dX9_readClock_89 : decode cX9_readClock 89 = .ok (.iastore, 1) := by decide +kernel
theorem dX9_readClock_90 : decode cX9_readClock 90 = .ok (.aload_n 0, 1) := by decide +kernel
theorem dX9_readClock_91 : decode cX9_readClock 91 = .ok (.getfield 24, 3) := by decide +kernel
theorem dX9_readClock_94 : decode cX9_readClock 94 = .ok (.iload_n 1, 1) := by decide +kernel
theorem dX9_readClock_95 : decode cX9_readClock 95 = .ok (.invokestatic 43, 3) := by decide +kernel
theorem dX9_readClock_98 : decode cX9_readClock 98 = .ok (.iconst 2, 1) := by decide +kernel
theorem dX9_readClock_99 : decode cX9_readClock 99 = .ok (.iadd, 1) := by decide +kernel
theorem dX9_readClock_100 : decode cX9_readClock 100 = .ok (.iload_n 3, 1) := by decide +kernel
theorem dX9_readClock_101 : decode cX9_readClock 101 = .ok (.iastore, 1) := by decide +kernel
theorem dX9_readClock_102 : decode cX9_readClock 102 = .ok (.return_, 1) := by decide +kernel
theorem dX9_readLink_0 : decode cX9_readLink 0 = .ok (.aload_n 0, 1) := by decide +kernel
theorem dX9_readLink_1 : decode cX9_readLink 1 = .ok (.iconst 0, 1) := by decide +kernel
theorem dX9_readLink_2 : decode cX9_readLink 2 = .ok (.aload_n 0, 1) := by decide +kernel
theorem dX9_readLink_3 : decode cX9_readLink 3 = .ok (.getfield 24, 3) := by decide +kernel
theorem dX9_readLink_6 : decode cX9_readLink 6 = .ok (.iconst 0, 1) := by decide +kernel
theorem dX9_readLink_7 : decode cX9_readLink 7 = .ok (.iaload, 1) := by decide +kernel
theorem dX9_readLink_8 : decode cX9_readLink 8 = .ok (.iconst 1, 1) := by decide +kernel
theorem dX9_readLink_9 : decode cX9_readLink 9 = .ok (.isub, 1) := by decide +kernel
theorem dX9_readLink_10 : decode cX9_readLink 10 = .ok (.invokevirtual 124, 3) := by decide +kernel
theorem dX9_readLink_13 : decode cX9_readLink 13 = .ok (.istore_n 1, 1) := by decide +kernel
theorem dX9_readLink_14 : decode cX9_readLink 14 = .ok (.aload_n 0, 1) := by decide +kernel
theorem dX9_readLink_15 : decode cX9_readLink 15 = .ok (.iconst 0, 1) := by decide +kernel
theorem dX9_readLink_16 : decode cX9_readLink 16 = .ok (.aload_n 0, 1) := by decide +kernel
theorem dX9_readLink_17 : decode cX9_readLink 17 = .ok (.getfield 24, 3) := by decide +kernel
theorem dX9_readLink_20 : decode cX9_readLink 20 = .ok (.iconst 0, 1) := by decide +kernel
theorem dX9_readLink_21 : decode cX9_readLink 21 = .ok (.iaload, 1) := by decide +kernel
theorem dX9_readLink_22 : decode cX9_readLink 22 = .ok (.iconst 1, 1) := by decide +kernel
theorem dX9_readLink_23 : decode cX9_readLink 23 = .ok (.isub, 1) := by decide +kernel
theorem dX9_readLink_24 : decode cX9_readLink 24 = .ok (.invokevirtual 124, 3) := by decide +kernel
theorem dX9_readLink_27 : decode cX9_readLink 27 = .ok (.istore_n 2, 1) := by decide +kernel
theorem dX9_readLink_28 : decode cX9_readLink 28 = .ok (.aload_n 0, 1) := by decide +kernel
theorem dX9_readLink_29 : decode cX9_readLink 29 = .ok (.invokevirtual 69, 3) := by decide +kernel
theorem dX9_readLink_32 : decode cX9_readLink 32 = .ok (.ifCond .eq 31, 3) := by decide +kernel
theorem dX9_readLink_35 : decode cX9_readLink 35 = .ok (.iload_n 1, 1) := by decide +kernel
theorem dX9_readLink_36 : decode cX9_readLink 36 = .ok (.iload_n 2, 1) := by decide +kernel
theorem dX9_readLink_37 : decode cX9_readLink 37 = .ok (.if_icmp .eq 16, 3) := by decide +kernel
theorem dX9_readLink_40 : decode cX9_readLink 40 = .ok (.aload_n 0, 1) := by decide +kernel
theorem dX9_readLink_41 : decode cX9_readLink 41 = .ok (.getfield 24, 3) := by decide +kernel
theorem dX9_readLink_44 : decode cX9_readLink 44 = .ok (.iload_n 1, 1) := by decide +kernel
theorem dX9_readLink_45 : decode cX9_readLink 45 = .ok (.iload_n 2, 1) := by decide +kernel
theorem dX9_readLink_46 : decode cX9_readLink 46 = .ok (.invokestatic 145, 3) := by decide +kernel
theorem dX9_readLink_49 : decode cX9_readLink 49 = .ok (.iaload, 1) := by decide +kernel
theorem dX9_readLink_50 : decode cX9_readLink 50 = .ok (.ifCond .eq 13, 3) := by decide +kernel
theorem dX9_readLink_53 : decode cX9_readLink 53 = .ok (.aload_n 0, 1) := by decide +kernel
theorem dX9_readLink_54 : decode cX9_readLink 54 = .ok (.bipush (-4), 2) := by decide +kernel
theorem dX9_readLink_56 : decode cX9_readLink 56 = .ok (.aload_n 0, 1) := by decide +kernel
theorem dX9_readLink_57 : decode cX9_readLink 57 = .ok (.getfield 94, 3) := by decide +kernel
theorem dX9_readLink_60 : decode cX9_readLink 60 = .ok (.invokevirtual 86, 3) := by decide +kernel
theorem dX9_readLink_63 : decode cX9_readLink 63 = .ok (.aload_n 0, 1) := by decide +kernel
theorem dX9_readLink_64 : decode cX9_readLink 64 = .ok (.iconst 1, 1) := by decide +kernel
theorem dX9_readLink_65 : decode cX9_readLink 65 = .ok (.bipush 9, 2) := by decide +kernel
theorem dX9_readLink_67 : decode cX9_readLink 67 = .ok (.invokevirtual 124, 3) := by decide +kernel
theorem dX9_readLink_70 : decode cX9_readLink 70 = .ok (.istore_n 3, 1) := by decide +kernel
theorem dX9_readLink_71 : decode cX9_readLink 71 = .ok (.aload_n 0, 1) := by decide +kernel
theorem dX9_readLink_72 : decode cX9_readLink 72 = .ok (.iconst 1, 1) := by decide +kernel
theorem dX9_readLink_73 : decode cX9_readLink 73 = .ok (.bipush 9, 2) := by decide +kernel
theorem dX9_readLink_75 : decode cX9_readLink 75 = .ok (.invokevirtual 124, 3) := by decide +kernel
theorem dX9_readLink_78 : decode cX9_readLink 78 = .ok (.istore 4, 2) := by decide +kernel
theorem dX9_readLink_80 : decode cX9_readLink 80 = .ok (.aload_n 0, 1) := by decide +kernel
theorem dX9_readLink_81 : decode cX9_readLink 81 = .ok (.invokevirtual 69, 3) := by decide +kernel
theorem dX9_readLink_84 : decode cX9_readLink 84 = .ok (.ifCond .ne 4, 3) := by decide +kernel
theorem dX9_readLink_87 : decode cX9_readLink 87 = .ok (.return_, 1) := by decide +kernel
theorem dX9_readLink_88 : decode cX9_readLink 88 = .ok (.aload_n 0, 1) := by decide +kernel
theorem dX9_readLink_89 : decode cX9_readLink 89 = .ok (.getfield 24, 3) := by decide +kernel
theorem dX9_readLink_92 : decode cX9_readLink 92 = .ok (.iload_n 1, 1) := by decide +kernel
theorem dX9_readLink_93 : decode cX9_readLink 93 = .ok (.iload_n 2, 1) := by decide +kernel
theorem dX9_readLink_94 : decode cX9_readLink 94 = .ok (.invokestatic 145, 3) := by decide +kernel
theorem dX9_readLink_97 : decode cX9_readLink 97 = .ok (.iload_n 3, 1) := by decide +kernel
theorem dX9_readLink_98 : decode cX9_readLink 98 = .ok (.iastore, 1) := by decide +kernel
theorem dX9_readLink_99 : decode cX9_readLink 99 = .ok (.aload_n 0, 1) := by decide +kernel
theorem dX9_readLink_100 : decode cX9_readLink 100 = .ok (.getfield 24, 3) := by decide +kernel
theorem dX9_readLink_103 : decode cX9_readLink 103 = .ok (.iload_n 2, 1) := by decide +kernel
theorem dX9_readLink_104 : decode cX9_readLink 104 = .ok (.iload_n 1, 1) := by decide +kernel
theorem dX9_readLink_105 : decode cX9_readLink 105 = .ok (.invokestatic 145, 3) := by decide +kernel
theorem dX9_readLink_108 : decode cX9_readLink 108 = .ok (.iload 4, 2) := by decide +kernel
theorem dX9_readLink_110 : decode cX9_readLink 110 = .ok (.iastore, 1) := by decide +kernel
theorem dX9_readLink_111 : decode cX9_readLink 111 = .ok (.return_, 1) := by decide +kernel
theorem dX9_statement_0 : decode cX9_statement 0 = .ok (.aload_n 0, 1) := by decide +kernel
theorem dX9_statement_1 : decode cX9_statement 1 = .ok (.invokevirtual 73, 3) := by decide +kernel
theorem dX9_statement_4 : decode cX9_statement 4 = .ok (.pop, 1) := by decide +kernel
theorem dX9_statement_5 : decode cX9_statement 5 = .ok (.aload_n 0, 1) := by decide +kernel
theorem dX9_statement_6 : decode cX9_statement 6 = .ok (.getfield 53, 3) := by decide +kernel
theorem dX9_statement_9 : decode cX9_statement 9 = .ok (.istore_n 1, 1) := by decide +kernel
theorem dX9_statement_10 : decode cX9_statement 10 = .ok (.aload_n 0, 1) := by decide +kernel
theorem dX9_statement_11 : decode cX9_statement 11 = .ok (.ldc 148, 2) := by decide +kernel
theorem dX9_statement_13 : decode cX9_statement 13 = .ok (.invokevirtual 114, 3) := by decide +kernel
theorem dX9_statement_16 : decode cX9_statement 16 = .ok (.ifCond .eq 10, 3) := by decide +kernel
theorem dX9_statement_19 : decode cX9_statement 19 = .ok (.aload_n 0, 1) := by decide +kernel
theorem dX9_statement_20 : decode cX9_statement 20 = .ok (.invokevirtual 150, 3) := by decide +kernel
theorem dX9_statement_23 : decode cX9_statement 23 = .ok (.goto 125, 3) := by decide +kernel
theorem dX9_statement_26 : decode cX9_statement 26 = .ok (.aload_n 0, 1) := by decide +kernel
theorem dX9_statement_27 : decode cX9_statement 27 = .ok (.ldc 153, 2) := by decide +kernel
theorem dX9_statement_29 : decode cX9_statement 29 = .ok (.invokevirtual 114, 3) := by decide +kernel
theorem dX9_statement_32 : decode cX9_statement 32 = .ok (.ifCond .eq 10, 3) := by decide +kernel
theorem dX9_statement_35 : decode cX9_statement 35 = .ok (.aload_n 0, 1) := by decide +kernel
theorem dX9_statement_36 : decode cX9_statement 36 = .ok (.invokevirtual 155, 3) := by decide +kernel
theorem dX9_statement_39 : decode cX9_statement 39 = .ok (.goto 109, 3) := by decide +kernel
theorem dX9_statement_42 : decode cX9_statement 42 = .ok (.aload_n 0, 1) := by decide +kernel
theorem dX9_statement_43 : decode cX9_statement 43 = .ok (.ldc 158, 2) := by decide +kernel
theorem dX9_statement_45 : decode cX9_statement 45 = .ok (.invokevirtual 114, 3) := by decide +kernel
theorem dX9_statement_48 : decode cX9_statement 48 = .ok (.ifCond .eq 30, 3) := by decide +kernel
theorem dX9_statement_51 : decode cX9_statement 51 = .ok (.aload_n 0, 1) := by decide +kernel
theorem dX9_statement_52 : decode cX9_statement 52 = .ok (.iconst 0, 1) := by decide +kernel
theorem dX9_statement_53 : decode cX9_statement 53 = .ok (.iload_n 1, 1) := by decide +kernel
theorem dX9_statement_54 : decode cX9_statement 54 = .ok (.invokevirtual 160, 3) := by decide +kernel
theorem dX9_statement_57 : decode cX9_statement 57 = .ok (.aload_n 0, 1) := by decide +kernel
theorem dX9_statement_58 : decode cX9_statement 58 = .ok (.getfield 24, 3) := by decide +kernel
theorem dX9_statement_61 : decode cX9_statement 61 = .ok (.bipush 11, 2) := by decide +kernel
theorem dX9_statement_63 : decode cX9_statement 63 = .ok (.aload_n 0, 1) := by decide +kernel
theorem dX9_statement_64 : decode cX9_statement 64 = .ok (.iconst 1, 1) := by decide +kernel
theorem dX9_statement_65 : decode cX9_statement 65 = .ok (.aload_n 0, 1) := by decide +kernel
theorem dX9_statement_66 : decode cX9_statement 66 = .ok (.getfield 24, 3) := by decide +kernel
theorem dX9_statement_69 : decode cX9_statement 69 = .ok (.iconst 0, 1) := by decide +kernel
theorem dX9_statement_70 : decode cX9_statement 70 = .ok (.iaload, 1) := by decide +kernel
theorem dX9_statement_71 : decode cX9_statement 71 = .ok (.invokevirtual 124, 3) := by decide +kernel
theorem dX9_statement_74 : decode cX9_statement 74 = .ok (.iastore, 1) := by decide +kernel
theorem dX9_statement_75 : decode cX9_statement 75 = .ok (.goto 73, 3) := by decide +kernel
theorem dX9_statement_78 : decode cX9_statement 78 = .ok (.aload_n 0, 1) := by decide +kernel
theorem dX9_statement_79 : decode cX9_statement 79 = .ok (.ldc 163, 2) := by decide +kernel
theorem dX9_statement_81 : decode cX9_statement 81 = .ok (.invokevirtual 114, 3) := by decide +kernel
theorem dX9_statement_84 : decode cX9_statement 84 = .ok (.ifCond .eq 27, 3) := by decide +kernel
theorem dX9_statement_87 : decode cX9_statement 87 = .ok (.aload_n 0, 1) := by decide +kernel
theorem dX9_statement_88 : decode cX9_statement 88 = .ok (.iconst 1, 1) := by decide +kernel
theorem dX9_statement_89 : decode cX9_statement 89 = .ok (.iload_n 1, 1) := by decide +kernel
theorem dX9_statement_90 : decode cX9_statement 90 = .ok (.invokevirtual 160, 3) := by decide +kernel
theorem dX9_statement_93 : decode cX9_statement 93 = .ok (.aload_n 0, 1) := by decide +kernel
theorem dX9_statement_94 : decode cX9_statement 94 = .ok (.getfield 24, 3) := by decide +kernel
theorem dX9_statement_97 : decode cX9_statement 97 = .ok (.bipush 12, 2) := by decide +kernel
theorem dX9_statement_99 : decode cX9_statement 99 = .ok (.aload_n 0, 1) := by decide +kernel
theorem dX9_statement_100 : decode cX9_statement 100 = .ok (.iconst 1, 1) := by decide +kernel
theorem dX9_statement_101 : decode cX9_statement 101 = .ok (.sipush 200, 3) := by decide +kernel
theorem dX9_statement_104 : decode cX9_statement 104 = .ok (.invokevirtual 124, 3) := by decide +kernel
theorem dX9_statement_107 : decode cX9_statement 107 = .ok (.iastore, 1) := by decide +kernel
theorem dX9_statement_108 : decode cX9_statement 108 = .ok (.goto 40, 3) := by decide +kernel
theorem dX9_statement_111 : decode cX9_statement 111 = .ok (.aload_n 0, 1) := by decide +kernel
theorem dX9_statement_112 : decode cX9_statement 112 = .ok (.ldc 165, 2) := by decide +kernel
theorem dX9_statement_114 : decode cX9_statement 114 = .ok (.invokevirtual 114, 3) := by decide +kernel
theorem dX9_statement_117 : decode cX9_statement 117 = .ok (.ifCond .eq 24, 3) := by decide +kernel
theorem dX9_statement_120 : decode cX9_statement 120 = .ok (.aload_n 0, 1) := by decide +kernel
theorem dX9_statement_121 : decode cX9_statement 121 = .ok (.iconst 2, 1) := by decide +kernel
theorem dX9_statement_122 : decode cX9_statement 122 = .ok (.iload_n 1, 1) := by decide +kernel
theorem dX9_statement_123 : decode cX9_statement 123 = .ok (.invokevirtual 160, 3) := by decide +kernel
theorem dX9_statement_126 : decode cX9_statement 126 = .ok (.aload_n 0, 1) := by decide +kernel
theorem dX9_statement_127 : decode cX9_statement 127 = .ok (.getfield 24, 3) := by decide +kernel
theorem dX9_statement_130 : decode cX9_statement 130 = .ok (.bipush 13, 2) := by decide +kernel
theorem dX9_statement_132 : decode cX9_statement 132 = .ok (.iconst 1, 1) := by decide +kernel
theorem dX9_statement_133 : decode cX9_statement 133 = .ok (.iastore, 1) := by decide +kernel
theorem dX9_statement_134 : decode cX9_statement 134 = .ok (.aload_n 0, 1) := by decide +kernel
theorem dX9_statement_135 : decode cX9_statement 135 = .ok (.invokevirtual 105, 3) := by decide +kernel
theorem dX9_statement_138 : decode cX9_statement 138 = .ok (.goto 10, 3) := by decide +kernel
theorem dX9_statement_141 : decode cX9_statement 141 = .ok (.aload_n 0, 1) := by decide +kernel
theorem dX9_statement_142 : decode cX9_statement 142 = .ok (.bipush (-2), 2) := by decide +kernel
theorem dX9_statement_144 : decode cX9_statement 144 = .ok (.iload_n 1, 1) := by decide +kernel
theorem dX9_statement_145 : decode cX9_statement 145 = .ok (.invokevirtual 86, 3) := by decide +kernel
theorem dX9_statement_148 : decode cX9_statement 148 = .ok (.aload_n 0, 1) := by decide +kernel
theorem dX9_statement_149 : decode cX9_statement 149 = .ok (.bipush 59, 2) := by decide +kernel
theorem dX9_statement_151 : decode cX9_statement 151 = .ok (.invokevirtual 108, 3) := by decide +kernel
theorem dX9_statement_154 : decode cX9_statement 154 = .ok (.return_, 1) := by decide +kernel
theorem dX9_load_0 : decode cX9_load 0 = .ok (.aload_n 0, 1) := by decide +kernel
theorem dX9_load_1 : decode cX9_load 1 = .ok (.iconst 0, 1) := by decide +kernel
theorem dX9_load_2 : decode cX9_load 2 = .ok (.putfield 40, 3) := by decide +kernel
theorem dX9_load_5 : decode cX9_load 5 = .ok (.aload_n 0, 1) := by decide +kernel
theorem dX9_load_6 : decode cX9_load 6 = .ok (.iload_n 1, 1) := by decide +kernel
theorem dX9_load_7 : decode cX9_load 7 = .ok (.iconst 0, 1) := by decide +kernel
theorem dX9_load_8 : decode cX9_load 8 = .ok (.aload_n 0, 1) := by decide +kernel
theorem dX9_load_9 : decode cX9_load 9 = .ok (.getfield 47, 3) := by decide +kernel
theorem dX9_load_12 : decode cX9_load 12 = .ok (.invokestatic 65, 3) := by decide +kernel
theorem dX9_load_15 : decode cX9_load 15 = .ok (.ifCond .ne 7, 3) := by decide +kernel
theorem dX9_load_18 : decode cX9_load 18 = .ok (.iconst 1, 1) := by decide +kernel
theorem dX9_load_19 : decode cX9_load 19 = .ok (.goto 4, 3) := by decide +kernel
theorem dX9_load_22 : decode cX9_load 22 = .ok (.iconst 0, 1) := by decide +kernel
theorem dX9_load_23 : decode cX9_load 23 = .ok (.iconst 1, 1) := by decide +kernel
theorem dX9_load_24 : decode cX9_load 24 = .ok (.invokevirtual 167, 3) := by decide +kernel
theorem dX9_load_27 : decode cX9_load 27 = .ok (.ifCond .eq 5, 3) := by decide +kernel
theorem dX9_load_30 : decode cX9_load 30 = .ok (.iconst 0, 1) := by decide +kernel
theorem dX9_load_31 : decode cX9_load 31 = .ok (.ireturn, 1) := by decide +kernel
theorem dX9_load_32 : decode cX9_load 32 = .ok (.aload_n 0, 1) := by decide +kernel
theorem dX9_load_33 : decode cX9_load 33 = .ok (.iconst 0, 1) := by decide +kernel
theorem dX9_load_34 : decode cX9_load 34 = .ok (.putfield 47, 3) := by decide +kernel
theorem dX9_load_37 : decode cX9_load 37 = .ok (.aload_n 0, 1) := by decide +kernel
theorem dX9_load_38 : decode cX9_load 38 = .ok (.iload_n 1, 1) := by decide +kernel
theorem dX9_load_39 : decode cX9_load 39 = .ok (.putfield 50, 3) := by decide +kernel
theorem dX9_load_42 : decode cX9_load 42 = .ok (.aload_n 0, 1) := by decide +kernel
theorem dX9_load_43 : decode cX9_load 43 = .ok (.iconst 0, 1) := by decide +kernel
theorem dX9_load_44 : decode cX9_load 44 = .ok (.putfield 53, 3) := by decide +kernel
theorem dX9_load_47 : decode cX9_load 47 = .ok (.aload_n 0, 1) := by decide +kernel
theorem dX9_load_48 : decode cX9_load 48 = .ok (.iconst 0, 1) := by decide +kernel
theorem dX9_load_49 : decode cX9_load 49 = .ok (.putfield 59, 3) := by decide +kernel
theorem dX9_load_52 : decode cX9_load 52 = .ok (.aload_n 0, 1) := by decide +kernel
theorem dX9_load_53 : decode cX9_load 53 = .ok (.iconst (-1), 1) := by decide +kernel
theorem dX9_load_54 : decode cX9_load 54 = .ok (.putfield 62, 3) := by decide +kernel
theorem dX9_load_57 : decode cX9_load 57 = .ok (.aload_n 0, 1) := by decide +kernel
theorem dX9_load_58 : decode cX9_load 58 = .ok (.iconst 0, 1) := by decide +kernel
theorem dX9_load_59 : decode cX9_load 59 = .ok (.putfield 102, 3) := by decide +kernel
theorem dX9_load_62 : decode cX9_load 62 = .ok (.aload_n 0, 1) := by decide +kernel
theorem dX9_load_63 : decode cX9_load 63 = .ok (.iconst 0, 1) := by decide +kernel
theorem dX9_load_64 : decode cX9_load 64 = .ok (.putfield 136, 3) := by decide +kernel
theorem dX9_load_67 : decode cX9_load 67 = .ok (.aload_n 0, 1) := by decide +kernel
theorem dX9_load_68 : decode cX9_load 68 = .ok (.iconst 0, 1) := by decide +kernel
theorem dX9_load_69 : decode cX9_load 69 = .ok (.putfield 139, 3) := by decide +kernel
theorem dX9_load_72 : decode cX9_load 72 = .ok (.aload_n 0, 1) := by decide +kernel
theorem dX9_load_73 : decode cX9_load 73 = .ok (.ldc 112, 2) := by decide +kernel
theorem dX9_load_75 : decode cX9_load 75 = .ok (.invokevirtual 114, 3) := by decide +kernel
theorem dX9_load_78 : decode cX9_load 78 = .ok (.ifCond .ne 13, 3) := by decide +kernel
theorem dX9_load_81 : decode cX9_load 81 = .ok (.aload_n 0, 1) := by decide +kernel
theorem dX9_load_82 : decode cX9_load 82 = .ok (.bipush (-2), 2) := by decide +kernel
theorem dX9_load_84 : decode cX9_load 84 = .ok (.aload_n 0, 1) := by decide +kernel
theorem dX9_load_85 : decode cX9_load 85 = .ok (.getfield 53, 3) := by decide +kernel
theorem dX9_load_88 : decode cX9_load 88 = .ok (.invokevirtual 86, 3) := by decide +kernel
theorem dX9_load_91 : decode cX9_load 91 = .ok (.aload_n 0, 1) := by decide +kernel
theorem dX9_load_92 : decode cX9_load 92 = .ok (.iconst 1, 1) := by decide +kernel
theorem dX9_load_93 : decode cX9_load 93 = .ok (.bipush 8, 2) := by decide +kernel
theorem dX9_load_95 : decode cX9_load 95 = .ok (.invokevirtual 124, 3) := by decide +kernel
theorem dX9_load_98 : decode cX9_load 98 = .ok (.istore_n 2, 1) := by decide +kernel
theorem dX9_load_99 : decode cX9_load 99 = .ok (.aload_n 0, 1) := by decide +kernel
theorem dX9_load_100 : decode cX9_load 100 = .ok (.getfield 24, 3) := by decide +kernel
theorem dX9_load_103 : decode cX9_load 103 = .ok (.iload_n 2, 1) := by decide +kernel
theorem dX9_load_104 : decode cX9_load 104 = .ok (.invokestatic 36, 3) := by decide +kernel
theorem dX9_load_107 : decode cX9_load 107 = .ok (.aload_n 0, 1) := by decide +kernel
theorem dX9_load_108 : decode cX9_load 108 = .ok (.bipush 59, 2) := by decide +kernel
theorem dX9_load_110 : decode cX9_load 110 = .ok (.invokevirtual 108, 3) := by decide +kernel
theorem dX9_load_113 : decode cX9_load 113 = .ok (.aload_n 0, 1) := by decide +kernel
theorem dX9_load_114 : decode cX9_load 114 = .ok (.invokevirtual 69, 3) := by decide +kernel
theorem dX9_load_117 : decode cX9_load 117 = .ok (.ifCond .eq 18, 3) := by decide +kernel
theorem dX9_load_120 : decode cX9_load 120 = .ok (.aload_n 0, 1) := by decide +kernel
theorem dX9_load_121 : decode cX9_load 121 = .ok (.invokevirtual 73, 3) := by decide +kernel
theorem dX9_load_124 : decode cX9_load 124 = .ok (.iconst (-1), 1) := by decide +kernel
theorem dX9_load_125 : decode cX9_load 125 = .ok (.if_icmp .eq 10, 3) := by decide +kernel
theorem dX9_load_128 : decode cX9_load 128 = .ok (.aload_n 0, 1) := by decide +kernel
theorem dX9_load_129 : decode cX9_load 129 = .ok (.invokevirtual 171, 3) := by decide +kernel
theorem dX9_load_132 : decode cX9_load 132 = .ok (.goto (-19), 3) := by decide +kernel
theorem dX9_load_135 : decode cX9_load 135 = .ok (.aload_n 0, 1) := by decide +kernel
theorem dX9_load_136 : decode cX9_load 136 = .ok (.aload_n 0, 1) := by decide +kernel
theorem dX9_load_137 : decode cX9_load 137 = .ok (.getfield 62, 3) := by decide +kernel
theorem dX9_load_140 : decode cX9_load 140 = .ok (.putfield 13, 3) := by decide +kernel
theorem dX9_load_143 : decode cX9_load 143 = .ok (.aload_n 0, 1) := by decide +kernel
theorem dX9_load_144 : decode cX9_load 144 = .ok (.invokevirtual 69, 3) := by decide +kernel
theorem dX9_load_147 : decode cX9_load 147 = .ok (.ifCond .ne 8, 3) := by decide +kernel
theorem dX9_load_150 : decode cX9_load 150 = .ok (.aload_n 0, 1) := by decide +kernel
theorem dX9_load_151 : decode cX9_load 151 = .ok (.getfield 59, 3) := by decide +kernel
theorem dX9_load_154 : decode cX9_load 154 = .ok (.ireturn, 1) := by decide +kernel
theorem dX9_load_155 : decode cX9_load 155 = .ok (.aload_n 0, 1) := by decide +kernel
theorem dX9_load_156 : decode cX9_load 156 = .ok (.invokevirtual 174, 3) := by decide +kernel
theorem dX9_load_159 : decode cX9_load 159 = .ok (.aload_n 0, 1) := by decide +kernel
theorem dX9_load_160 : decode cX9_load 160 = .ok (.getfield 24, 3) := by decide +kernel
theorem dX9_load_163 : decode cX9_load 163 = .ok (.aload_n 0, 1) := by decide +kernel
theorem dX9_load_164 : decode cX9_load 164 = .ok (.getfield 18, 3) := by decide +kernel
theorem dX9_load_167 : decode cX9_load 167 = .ok (.invokestatic 177, 3) := by decide +kernel
theorem dX9_load_170 : decode cX9_load 170 = .ok (.aload_n 0, 1) := by decide +kernel
theorem dX9_load_171 : decode cX9_load 171 = .ok (.getfield 18, 3) := by decide +kernel
theorem dX9_load_174 : decode cX9_load 174 = .ok (.iconst 0, 1) := by decide +kernel
theorem dX9_load_175 : decode cX9_load 175 = .ok (.iaload, 1) := by decide +kernel
theorem dX9_load_176 : decode cX9_load 176 = .ok (.ireturn, 1) := by decide +kernel
theorem dX9_errorOffset_0 : decode cX9_errorOffset 0 = .ok (.aload_n 0, 1) := by decide +kernel
theorem dX9_errorOffset_1 : decode cX9_errorOffset 1 = .ok (.iconst 0, 1) := by decide +kernel
theorem dX9_errorOffset_2 : decode cX9_errorOffset 2 = .ok (.putfield 40, 3) := by decide +kernel
theorem dX9_errorOffset_5 : decode cX9_errorOffset 5 = .ok (.aload_n 0, 1) := by decide +kernel
theorem dX9_errorOffset_6 : decode cX9_errorOffset 6 = .ok (.getfield 13, 3) := by decide +kernel
theorem dX9_errorOffset_9 : decode cX9_errorOffset 9 = .ok (.ireturn, 1) := by decide +kernel
theorem dX9_playerAt_0 : decode cX9_playerAt 0 = .ok (.bipush 23, 2) := by decide +kernel
theorem dX9_playerAt_2 : decode cX9_playerAt 2 = .ok (.bipush 12, 2) := by decide +kernel
theorem dX9_playerAt_4 : decode cX9_playerAt 4 = .ok (.iload_n 0, 1) := by decide +kernel
theorem dX9_playerAt_5 : decode cX9_playerAt 5 = .ok (.imul, 1) := by decide +kernel
theorem dX9_playerAt_6 : decode cX9_playerAt 6 = .ok (.iadd, 1) := by decide +kernel
theorem dX9_playerAt_7 : decode cX9_playerAt 7 = .ok (.ireturn, 1) := by decide +kernel
theorem dX9_linkAt_0 : decode cX9_linkAt 0 = .ok (.bipush 119, 2) := by decide +kernel
theorem dX9_linkAt_2 : decode cX9_linkAt 2 = .ok (.bipush 8, 2) := by decide +kernel
theorem dX9_linkAt_4 : decode cX9_linkAt 4 = .ok (.iload_n 0, 1) := by decide +kernel
theorem dX9_linkAt_5 : decode cX9_linkAt 5 = .ok (.imul, 1) := by decide +kernel
theorem dX9_linkAt_6 : decode cX9_linkAt 6 = .ok (.iadd, 1) := by decide +kernel
theorem dX9_linkAt_7 : decode cX9_linkAt 7 = .ok (.iload_n 1, 1) := by decide +kernel
theorem dX9_linkAt_8 : decode cX9_linkAt 8 = .ok (.iadd, 1) := by decide +kernel
theorem dX9_linkAt_9 : decode cX9_linkAt 9 = .ok (.ireturn, 1) := by decide +kernel
theorem dX9_of_0 : decode cX9_of 0 = .ok (.aload_n 0, 1) := by decide +kernel
theorem dX9_of_1 : decode cX9_of 1 = .ok (.getfield 18, 3) := by decide +kernel
theorem dX9_of_4 : decode cX9_of 4 = .ok (.iload_n 1, 1) := by decide +kernel
theorem dX9_of_5 : decode cX9_of 5 = .ok (.invokestatic 43, 3) := by decide +kernel
theorem dX9_of_8 : decode cX9_of 8 = .ok (.iload_n 2, 1) := by decide +kernel
theorem dX9_of_9 : decode cX9_of 9 = .ok (.iadd, 1) := by decide +kernel
theorem dX9_of_10 : decode cX9_of 10 = .ok (.iaload, 1) := by decide +kernel
theorem dX9_of_11 : decode cX9_of 11 = .ok (.ireturn, 1) := by decide +kernel
theorem dX9_set_0 : decode cX9_set 0 = .ok (.aload_n 0, 1) := by decide +kernel
theorem dX9_set_1 : decode cX9_set 1 = .ok (.getfield 18, 3) := by decide +kernel
theorem dX9_set_4 : decode cX9_set 4 = .ok (.iload_n 1, 1) := by decide +kernel
theorem dX9_set_5 : decode cX9_set 5 = .ok (.invokestatic 43, 3) := by decide +kernel
theorem dX9_set_8 : decode cX9_set 8 = .ok (.iload_n 2, 1) := by decide +kernel
theorem dX9_set_9 : decode cX9_set 9 = .ok (.iadd, 1) := by decide +kernel
theorem dX9_set_10 : decode cX9_set 10 = .ok (.iload_n 3, 1) := by decide +kernel
theorem dX9_set_11 : decode cX9_set 11 = .ok (.iastore, 1) := by decide +kernel
theorem dX9_set_12 : decode cX9_set 12 = .ok (.return_, 1) := by decide +kernel
theorem dX9_isUp_0 : decode cX9_isUp 0 = .ok (.aload_n 0, 1) := by decide +kernel
theorem dX9_isUp_1 : decode cX9_isUp 1 = .ok (.iload_n 1, 1) := by decide +kernel
theorem dX9_isUp_2 : decode cX9_isUp 2 = .ok (.iconst 0, 1) := by decide +kernel
theorem dX9_isUp_3 : decode cX9_isUp 3 = .ok (.invokevirtual 181, 3) := by decide +kernel
theorem dX9_isUp_6 : decode cX9_isUp 6 = .ok (.iconst 1, 1) := by decide +kernel
theorem dX9_isUp_7 : decode cX9_isUp 7 = .ok (.if_icmp .ne 7, 3) := by decide +kernel
theorem dX9_isUp_10 : decode cX9_isUp 10 = .ok (.iconst 1, 1) := by decide +kernel
theorem dX9_isUp_11 : decode cX9_isUp 11 = .ok (.goto 4, 3) := by decide +kernel
theorem dX9_isUp_14 : decode cX9_isUp 14 = .ok (.iconst 0, 1) := by decide +kernel
theorem dX9_isUp_15 : decode cX9_isUp 15 = .ok (.ireturn, 1) := by decide +kernel
theorem dX9_clock_0 : decode cX9_clock 0 = .ok (.aload_n 0, 1) := by decide +kernel
theorem dX9_clock_1 : decode cX9_clock 1 = .ok (.getfield 18, 3) := by decide +kernel
theorem dX9_clock_4 : decode cX9_clock 4 = .ok (.iconst 1, 1) := by decide +kernel
theorem dX9_clock_5 : decode cX9_clock 5 = .ok (.iaload, 1) := by decide +kernel
theorem dX9_clock_6 : decode cX9_clock 6 = .ok (.aload_n 0, 1) := by decide +kernel
theorem dX9_clock_7 : decode cX9_clock 7 = .ok (.iload_n 1, 1) := by decide +kernel
theorem dX9_clock_8 : decode cX9_clock 8 = .ok (.iconst 1, 1) := by decide +kernel
theorem dX9_clock_9 : decode cX9_clock 9 = .ok (.invokevirtual 181, 3) := by decide +kernel
theorem dX9_clock_12 : decode cX9_clock 12 = .ok (.iadd, 1) := by decide +kernel
theorem dX9_clock_13 : decode cX9_clock 13 = .ok (.aload_n 0, 1) := by decide +kernel
theorem dX9_clock_14 : decode cX9_clock 14 = .ok (.getfield 18, 3) := by decide +kernel
theorem dX9_clock_17 : decode cX9_clock 17 = .ok (.iconst 1, 1) := by decide +kernel
theorem dX9_clock_18 : decode cX9_clock 18 = .ok (.iaload, 1) := by decide +kernel
theorem dX9_clock_19 : decode cX9_clock 19 = .ok (.aload_n 0, 1) := by decide +kernel
theorem dX9_clock_20 : decode cX9_clock 20 = .ok (.iload_n 1, 1) := by decide +kernel
theorem dX9_clock_21 : decode cX9_clock 21 = .ok (.iconst 2, 1) := by decide +kernel
theorem dX9_clock_22 : decode cX9_clock 22 = .ok (.invokevirtual 181, 3) := by decide +kernel
theorem dX9_clock_25 : decode cX9_clock 25 = .ok (.imul, 1) := by decide +kernel
theorem dX9_clock_26 : decode cX9_clock 26 = .ok (.sipush 1000, 3) := by decide +kernel
theorem dX9_clock_29 : decode cX9_clock 29 = .ok (.idiv, 1) := by decide +kernel
theorem dX9_clock_30 : decode cX9_clock 30 = .ok (.iadd, 1) := by decide +kernel
theorem dX9_clock_31 : decode cX9_clock 31 = .ok (.ireturn, 1) := by decide +kernel
theorem dX9_estimate_0 : decode cX9_estimate 0 = .ok (.aload_n 0, 1) := by decide +kernel
theorem dX9_estimate_1 : decode cX9_estimate 1 = .ok (.iload_n 1, 1) := by decide +kernel
theorem dX9_estimate_2 : decode cX9_estimate 2 = .ok (.invokevirtual 184, 3) := by decide +kernel
theorem dX9_estimate_5 : decode cX9_estimate 5 = .ok (.aload_n 0, 1) := by decide +kernel
theorem dX9_estimate_6 : decode cX9_estimate 6 = .ok (.iload_n 1, 1) := by decide +kernel
theorem dX9_estimate_7 : decode cX9_estimate 7 = .ok (.iconst 3, 1) := by decide +kernel
theorem dX9_estimate_8 : decode cX9_estimate 8 = .ok (.invokevirtual 181, 3) := by decide +kernel
theorem dX9_estimate_11 : decode cX9_estimate 11 = .ok (.iadd, 1) := by decide +kernel
theorem dX9_estimate_12 : decode cX9_estimate 12 = .ok (.ireturn, 1) := by decide +kernel
theorem dX9_longestDelay_0 : decode cX9_longestDelay 0 = .ok (.iconst 0, 1) := by decide +kernel
theorem dX9_longestDelay_1 : decode cX9_longestDelay 1 = .ok (.istore_n 1, 1) := by decide +kernel
theorem dX9_longestDelay_2 : decode cX9_longestDelay 2 = .ok (.iconst 0, 1) := by decide +kernel
theorem dX9_longestDelay_3 : decode cX9_longestDelay 3 = .ok (.istore_n 2, 1) := by decide +kernel
theorem dX9_longestDelay_4 : decode cX9_longestDelay 4 = .ok (.iload_n 2, 1) := by decide +kernel
theorem dX9_longestDelay_5 : decode cX9_longestDelay 5 = .ok (.bipush 64, 2) := by decide +kernel
theorem dX9_longestDelay_7 : decode cX9_longestDelay 7 = .ok (.if_icmp .ge 23, 3) := by decide +kernel
theorem dX9_longestDelay_10 : decode cX9_longestDelay 10 = .ok (.iload_n 1, 1) := by decide +kernel
theorem dX9_longestDelay_11 : decode cX9_longestDelay 11 = .ok (.aload_n 0, 1) := by decide +kernel
theorem dX9_longestDelay_12 : decode cX9_longestDelay 12 = .ok (.getfield 18, 3) := by decide +kernel
theorem dX9_longestDelay_15 : decode cX9_longestDelay 15 = .ok (.bipush 119, 2) := by decide +kernel
theorem dX9_longestDelay_17 : decode cX9_longestDelay 17 = .ok (.iload_n 2, 1) := by decide +kernel
theorem dX9_longestDelay_18 : decode cX9_longestDelay 18 = .ok (.iadd, 1) := by decide +kernel
theorem dX9_longestDelay_19 : decode cX9_longestDelay 19 = .ok (.iaload, 1) := by decide +kernel
theorem dX9_longestDelay_20 : decode cX9_longestDelay 20 = .ok (.invokestatic 186, 3) := by decide +kernel
theorem dX9_longestDelay_23 : decode cX9_longestDelay 23 = .ok (.istore_n 1, 1) := by decide +kernel
theorem dX9_longestDelay_24 : decode cX9_longestDelay 24 = .ok (.iinc 2 1, 3) := by decide +kernel
theorem dX9_longestDelay_27 : decode cX9_longestDelay 27 = .ok (.goto (-23), 3) := by decide +kernel
theorem dX9_longestDelay_30 : decode cX9_longestDelay 30 = .ok (.iload_n 1, 1) := by decide +kernel
theorem dX9_longestDelay_31 : decode cX9_longestDelay 31 = .ok (.ireturn, 1) := by decide +kernel
theorem dX9_playersUp_0 : decode cX9_playersUp 0 = .ok (.iconst 0, 1) := by decide +kernel
theorem dX9_playersUp_1 : decode cX9_playersUp 1 = .ok (.istore_n 1, 1) := by decide +kernel
theorem dX9_playersUp_2 : decode cX9_playersUp 2 = .ok (.iconst 0, 1) := by decide +kernel
theorem dX9_playersUp_3 : decode cX9_playersUp 3 = .ok (.istore_n 2, 1) := by decide +kernel
theorem dX9_playersUp_4 : decode cX9_playersUp 4 = .ok (.iload_n 2, 1) := by decide +kernel
theorem dX9_playersUp_5 : decode cX9_playersUp 5 = .ok (.aload_n 0, 1) := by decide +kernel
theorem dX9_playersUp_6 : decode cX9_playersUp 6 = .ok (.getfield 18, 3) := by decide +kernel
theorem dX9_playersUp_9 : decode cX9_playersUp 9 = .ok (.iconst 0, 1) := by decide +kernel
theorem dX9_playersUp_10 : decode cX9_playersUp 10 = .ok (.iaload, 1) := by decide +kernel
theorem dX9_playersUp_11 : decode cX9_playersUp 11 = .ok (.if_icmp .ge 18, 3) := by decide +kernel
theorem dX9_playersUp_14 : decode cX9_playersUp 14 = .ok (.iload_n 1, 1) := by decide +kernel
theorem dX9_playersUp_15 : decode cX9_playersUp 15 = .ok (.aload_n 0, 1) := by decide +kernel
theorem dX9_playersUp_16 : decode cX9_playersUp 16 = .ok (.iload_n 2, 1) := by decide +kernel
theorem dX9_playersUp_17 : decode cX9_playersUp 17 = .ok (.iconst 0, 1) := by decide +kernel
theorem dX9_playersUp_18 : decode cX9_playersUp 18 = .ok (.invokevirtual 181, 3) := by decide +kernel
theorem dX9_playersUp_21 : decode cX9_playersUp 21 = .ok (.iadd, 1) := by decide +kernel
theorem dX9_playersUp_22 : decode cX9_playersUp 22 = .ok (.istore_n 1, 1) := by decide +kernel
theorem dX9_playersUp_23 : decode cX9_playersUp 23 = .ok (.iinc 2 1, 3) := by decide +kernel
theorem dX9_playersUp_26 : decode cX9_playersUp 26 = .ok (.goto (-22), 3) := by decide +kernel
theorem dX9_playersUp_29 : decode cX9_playersUp 29 = .ok (.iload_n 1, 1) := by decide +kernel
theorem dX9_playersUp_30 : decode cX9_playersUp 30 = .ok (.ireturn, 1) := by decide +kernel
theorem dX9_limited_0 : decode cX9_limited 0 = .ok (.lload_n 0, 1) := by decide +kernel
theorem dX9_limited_1 : decode cX9_limited 1 = .ok (.ldc2_w 189, 3) := by decide +kernel
theorem dX9_limited_4 : decode cX9_limited 4 = .ok (.lcmp, 1) := by decide +kernel
theorem dX9_limited_5 : decode cX9_limited 5 = .ok (.ifCond .le 9, 3) := by decide +kernel
theorem dX9_limited_8 : decode cX9_limited 8 = .ok (.ldc2_w 189, 3) := by decide +kernel
theorem dX9_limited_11 : decode cX9_limited 11 = .ok (.goto 18, 3) := by decide +kernel
theorem dX9_limited_14 : decode cX9_limited 14 = .ok (.lload_n 0, 1) := by decide +kernel
theorem dX9_limited_15 : decode cX9_limited 15 = .ok (.ldc2_w 191, 3) := by decide +kernel
theorem dX9_limited_18 : decode cX9_limited 18 = .ok (.lcmp, 1) := by decide +kernel
theorem dX9_limited_19 : decode cX9_limited 19 = .ok (.ifCond .ge 9, 3) := by decide +kernel
theorem dX9_limited_22 : decode cX9_limited 22 = .ok (.ldc2_w 191, 3) := by decide +kernel
theorem dX9_limited_25 : decode cX9_limited 25 = .ok (.goto 4, 3) := by decide +kernel
theorem dX9_limited_28 : decode cX9_limited 28 = .ok (.lload_n 0, 1) := by decide +kernel
theorem dX9_limited_29 : decode cX9_limited 29 = .ok (.lreturn, 1) := by decide +kernel
theorem dX9_operate_0 : decode cX9_operate 0 = .ok (.iload_n 0, 1) := by decide +kernel
theorem dX9_operate_1 : decode cX9_operate 1 = .ok (.iconst 5, 1) := by decide +kernel
theorem dX9_operate_2 : decode cX9_operate 2 = .ok (.if_icmp .ne 20, 3) := by decide +kernel
theorem dX9_operate_5 : decode cX9_operate 5 = .ok (.lload_n 3, 1) := by decide +kernel
theorem dX9_operate_6 : decode cX9_operate 6 = .ok (.lconst 0, 1) := by decide +kernel
theorem dX9_operate_7 : decode cX9_operate 7 = .ok (.lcmp, 1) := by decide +kernel
theorem dX9_operate_8 : decode cX9_operate 8 = .ok (.ifCond .ne 7, 3) := by decide +kernel
theorem dX9_operate_11 : decode cX9_operate 11 = .ok (.lconst 0, 1) := by decide +kernel
theorem dX9_operate_12 : decode cX9_operate 12 = .ok (.goto 9, 3) := by decide +kernel
theorem dX9_operate_15 : decode cX9_operate 15 = .ok (.lload_n 1, 1) := by decide +kernel
theorem dX9_operate_16 : decode cX9_operate 16 = .ok (.lload_n 3, 1) := by decide +kernel
theorem dX9_operate_17 : decode cX9_operate 17 = .ok (.ldiv, 1) := by decide +kernel
theorem dX9_operate_18 : decode cX9_operate 18 = .ok (.invokestatic 193, 3) := by decide +kernel
theorem dX9_operate_21 : decode cX9_operate 21 = .ok (.lreturn, 1) := by decide +kernel
theorem dX9_operate_22 : decode cX9_operate 22 = .ok (.iload_n 0, 1) := by decide +kernel
theorem dX9_operate_23 : decode cX9_operate 23 = .ok (.iconst 2, 1) := by decide +kernel
theorem dX9_operate_24 : decode cX9_operate 24 = .ok (.if_icmp .ne 9, 3) := by decide +kernel
theorem dX9_operate_27 : decode cX9_operate 27 = .ok (.lload_n 1, 1) := by decide +kernel
theorem dX9_operate_28 : decode cX9_operate 28 = .ok (.lload_n 3, 1) := by decide +kernel
theorem dX9_operate_29 : decode cX9_operate 29 = .ok (.ladd, 1) := by decide +kernel
theorem dX9_operate_30 : decode cX9_operate 30 = .ok (.goto 17, 3) := by decide +kernel
theorem dX9_operate_33 : decode cX9_operate 33 = .ok (.iload_n 0, 1) := by decide +kernel
theorem dX9_operate_34 : decode cX9_operate 34 = .ok (.iconst 3, 1) := by decide +kernel
theorem dX9_operate_35 : decode cX9_operate 35 = .ok (.if_icmp .ne 9, 3) := by decide +kernel
theorem dX9_operate_38 : decode cX9_operate 38 = .ok (.lload_n 1, 1) := by decide +kernel
theorem dX9_operate_39 : decode cX9_operate 39 = .ok (.lload_n 3, 1) := by decide +kernel
theorem dX9_operate_40 : decode cX9_operate 40 = .ok (.lsub, 1) := by decide +kernel
theorem dX9_operate_41 : decode cX9_operate 41 = .ok (.goto 6, 3) := by decide +kernel
theorem dX9_operate_44 : decode cX9_operate 44 = .ok (.lload_n 1, 1) := by decide +kernel
theorem dX9_operate_45 : decode cX9_operate 45 = .ok (.lload_n 3, 1) := by decide +kernel
theorem dX9_operate_46 : decode cX9_operate 46 = .ok (.lmul, 1) := by decide +kernel
theorem dX9_operate_47 : decode cX9_operate 47 = .ok (.invokestatic 193, 3) := by decide +kernel
theorem dX9_operate_50 : decode cX9_operate 50 = .ok (.lreturn, 1) := by decide +kernel
theorem dX9_fact_0 : decode cX9_fact 0 = .ok (.iload_n 1, 1) := by decide +kernel
theorem dX9_fact_1 : decode cX9_fact 1 = .ok (.ifCond .ne 12, 3) := by decide +kernel
theorem dX9_fact_4 : decode cX9_fact 4 = .ok (.aload_n 0, 1) := by decide +kernel
theorem dX9_fact_5 : decode cX9_fact 5 = .ok (.getfield 18, 3) := by decide +kernel
theorem dX9_fact_8 : decode cX9_fact 8 = .ok (.iconst 0, 1) := by decide +kernel
theorem dX9_fact_9 : decode cX9_fact 9 = .ok (.iaload, 1) := by decide +kernel
theorem dX9_fact_10 : decode cX9_fact 10 = .ok (.goto 28, 3) := by decide +kernel
theorem dX9_fact_13 : decode cX9_fact 13 = .ok (.iload_n 1, 1) := by decide +kernel
theorem dX9_fact_14 : decode cX9_fact 14 = .ok (.iconst 1, 1) := by decide +kernel
theorem dX9_fact_15 : decode cX9_fact 15 = .ok (.if_icmp .ne 10, 3) := by decide +kernel
theorem dX9_fact_18 : decode cX9_fact 18 = .ok (.aload_n 0, 1) := by decide +kernel
theorem dX9_fact_19 : decode cX9_fact 19 = .ok (.invokevirtual 197, 3) := by decide +kernel
theorem dX9_fact_22 : decode cX9_fact 22 = .ok (.goto 16, 3) := by decide +kernel
theorem dX9_fact_25 : decode cX9_fact 25 = .ok (.iload_n 1, 1) := by decide +kernel
theorem dX9_fact_26 : decode cX9_fact 26 = .ok (.iconst 2, 1) := by decide +kernel
theorem dX9_fact_27 : decode cX9_fact 27 = .ok (.if_icmp .ne 10, 3) := by decide +kernel
theorem dX9_fact_30 : decode cX9_fact 30 = .ok (.aload_n 0, 1) := by decide +kernel
theorem dX9_fact_31 : decode cX9_fact 31 = .ok (.invokevirtual 200, 3) := by decide +kernel
theorem dX9_fact_34 : decode cX9_fact 34 = .ok (.goto 4, 3) := by decide +kernel
theorem dX9_fact_37 : decode cX9_fact 37 = .ok (.iload_n 2, 1) := by decide +kernel
theorem dX9_fact_38 : decode cX9_fact 38 = .ok (.ireturn, 1) := by decide +kernel
theorem dX9_expression_0 : decode cX9_expression 0 = .ok (.iconst 0, 1) := by decide +kernel
theorem dX9_expression_1 : decode cX9_expression 1 = .ok (.istore_n 2, 1) := by decide +kernel
theorem dX9_expression_2 : decode cX9_expression 2 = .ok (.aload_n 0, 1) := by decide +kernel
theorem dX9_expression_3 : decode cX9_expression 3 = .ok (.getfield 32, 3) := by decide +kernel
theorem dX9_expression_6 : decode cX9_expression 6 = .ok (.iconst 0, 1) := by decide +kernel
theorem dX9_expression_7 : decode cX9_expression 7 = .ok (.lconst 0, 1) := by decide +kernel
theorem dX9_expression_8 : decode cX9_expression 8 = .ok (.lastore, 1) := by decide +kernel
theorem dX9_expression_9 : decode cX9_expression 9 = .ok (.iconst 0, 1) := by decide +kernel
theorem dX9_expression_10 : decode cX9_expression 10 = .ok (.istore_n 3, 1) := by decide +kernel
theorem dX9_expression_11 : decode cX9_expression 11 = .ok (.iload_n 3, 1) := by decide +kernel
theorem dX9_expression_12 : decode cX9_expression 12 = .ok (.aload_n 0, 1) := by decide +kernel
theorem dX9_expression_13 : decode cX9_expression 13 = .ok (.getfield 18, 3) := by decide +kernel
theorem dX9_expression_16 : decode cX9_expression 16 = .ok (.bipush 14, 2) := by decide +kernel
theorem dX9_expression_18 : decode cX9_expression 18 = .ok (.iaload, 1) := by decide +kernel
theorem dX9_expression_19 : decode cX9_expression 19 = .ok (.if_icmp .ge 107, 3) := by decide +kernel
theorem dX9_expression_22 : decode cX9_expression 22 = .ok (.aload_n 0, 1) := by decide +kernel
theorem dX9_expression_23 : decode cX9_expression 23 = .ok (.getfield 18, 3) := by decide +kernel
theorem dX9_expression_26 : decode cX9_expression 26 = .ok (.sipush 183, 3) := by decide +kernel
theorem dX9_expression_29 : decode cX9_expression 29 = .ok (.iload_n 3, 1) := by decide +kernel
theorem dX9_expression_30 : decode cX9_expression 30 = .ok (.iadd, 1) := by decide +kernel
theorem dX9_expression_31 : decode cX9_expression 31 = .ok (.iaload, 1) := by decide +kernel
theorem dX9_expression_32 : decode cX9_expression 32 = .ok (.istore 4, 2) := by decide +kernel
theorem dX9_expression_34 : decode cX9_expression 34 = .ok (.iload 4, 2) := by decide +kernel
theorem dX9_expression_36 : decode cX9_expression 36 = .ok (.iconst 1, 1) := by decide +kernel
theorem dX9_expression_37 : decode cX9_expression 37 = .ok (.if_icmp .gt 53, 3) := by decide +kernel
theorem dX9_expression_40 : decode cX9_expression 40 = .ok (.iinc 3 1, 3) := by decide +kernel
theorem dX9_expression_43 : decode cX9_expression 43 = .ok (.aload_n 0, 1) := by decide +kernel
theorem dX9_expression_44 : decode cX9_expression 44 = .ok (.getfield 32, 3) := by decide +kernel
theorem dX9_expression_47 : decode cX9_expression 47 = .ok (.iload_n 2, 1) := by decide +kernel
theorem dX9_expression_48 : decode cX9_expression 48 = .ok (.iload 4, 2) := by decide +kernel
theorem dX9_expression_50 : decode cX9_expression 50 = .ok (.ifCond .ne 17, 3) := by decide +kernel
theorem dX9_expression_53 : decode cX9_expression 53 = .ok (.aload_n 0, 1) := by decide +kernel
theorem dX9_expression_54 : decode cX9_expression 54 = .ok (.getfield 18, 3) := by decide +kernel
theorem dX9_expression_57 : decode cX9_expression 57 = .ok (.sipush 183, 3) := by decide +kernel
theorem dX9_expression_60 : decode cX9_expression 60 = .ok (.iload_n 3, 1) := by decide +kernel
theorem dX9_expression_61 : decode cX9_expression 61 = .ok (.iadd, 1) := by decide +kernel
theorem dX9_expression_62 : decode cX9_expression 62 = .ok (.iaload, 1) := by decide +kernel
theorem dX9_expression_63 : decode cX9_expression 63 = .ok (.i2l, 1) := by decide +kernel
theorem dX9_expression_64 : decode cX9_expression 64 = .ok (.goto 19, 3) := by decide +kernel
theorem dX9_expression_67 : decode cX9_expression 67 = .ok (.aload_n 0, 1) := by decide +kernel
theorem dX9_expression_68 : decode cX9_expression 68 = .ok (.aload_n 0, 1) := by decide +kernel
theorem dX9_expression_69 : decode cX9_expression 69 = .ok (.getfield 18, 3) := by decide +kernel
theorem dX9_expression_72 : decode cX9_expression 72 = .ok (.sipush 183, 3) := by decide +kernel
theorem dX9_expression_75 : decode cX9_expression 75 = .ok (.iload_n 3, 1) := by decide +kernel
theorem dX9_expression_76 : decode cX9_expression 76 = .ok (.iadd, 1) := by decide +kernel
theorem dX9_expression_77 : decode cX9_expression 77 = .ok (.iaload, 1) := by decide +kernel
theorem dX9_expression_78 : decode cX9_expression 78 = .ok (.iload_n 1, 1) := by decide +kernel
theorem dX9_expression_79 : decode cX9_expression 79 = .ok (.invokevirtual 203, 3) := by decide +kernel
theorem dX9_expression_82 : decode cX9_expression 82 = .ok (.i2l, 1) := by decide +kernel
theorem dX9_expression_83 : decode cX9_expression 83 = .ok (.lastore, 1) := by decide +kernel
theorem dX9_expression_84 : decode cX9_expression 84 = .ok (.iinc 2 1, 3) := by decide +kernel
theorem dX9_expression_87 : decode cX9_expression 87 = .ok (.goto 33, 3) := by decide +kernel
theorem dX9_expression_90 : decode cX9_expression 90 = .ok (.iinc 2 (-1), 3) := by decide +kernel
theorem dX9_expression_93 : decode cX9_expression 93 = .ok (.aload_n 0, 1) := by decide +kernel
theorem dX9_expression_94 : decode cX9_expression 94 = .ok (.getfield 32, 3) := by decide +kernel
theorem dX9_expression_97 : decode cX9_expression 97 = .ok (.iload_n 2, 1) := by decide +kernel
theorem dX9_expression_98 : decode cX9_expression 98 = .ok (.iconst 1, 1) := by decide +kernel
theorem dX9_expression_99 : decode cX9_expression 99 = .ok (.isub, 1) := by decide +kernel
theorem dX9_expression_100 : decode cX9_expression 100 = .ok (.iload 4, 2) := by decide +kernel
theorem dX9_expression_102 : decode cX9_expression 102 = .ok (.aload_n 0, 1) := by decide +kernel
theorem dX9_expression_103 : decode cX9_expression 103 = .ok (.getfield 32, 3) := by decide +kernel
theorem dX9_expression_106 : decode cX9_expression 106 = .ok (.iload_n 2, 1) := by decide +kernel
theorem dX9_expression_107 : decode cX9_expression 107 = .ok (.iconst 1, 1) := by decide +kernel
theorem dX9_expression_108 : decode cX9_expression 108 = .ok (.isub, 1) := by decide +kernel
theorem dX9_expression_109 : decode cX9_expression 109 = .ok (.laload, 1) := by decide +kernel
theorem dX9_expression_110 : decode cX9_expression 110 = .ok (.aload_n 0, 1) := by decide +kernel
theorem dX9_expression_111 : decode cX9_expression 111 = .ok (.getfield 32, 3) := by decide +kernel
theorem dX9_expression_114 : decode cX9_expression 114 = .ok (.iload_n 2, 1) := by decide +kernel
theorem dX9_expression_115 : decode cX9_expression 115 = .ok (.laload, 1) := by decide +kernel
theorem dX9_expression_116 : decode cX9_expression 116 = .ok (.invokestatic 206, 3) := by decide +kernel
theorem dX9_expression_119 : decode cX9_expression 119 = .ok (.lastore, 1) := by decide +kernel
theorem dX9_expression_120 : decode cX9_expression 120 = .ok (.iinc 3 1, 3) := by decide +kernel
theorem dX9_expression_123 : decode cX9_expression 123 = .ok (.goto (-112), 3) := by decide +kernel
theorem dX9_expression_126 : decode cX9_expression 126 = .ok (.aload_n 0, 1) := by decide +kernel
theorem dX9_expression_127 : decode cX9_expression 127 = .ok (.getfield 32, 3) := by decide +kernel
theorem dX9_expression_130 : decode cX9_expression 130 = .ok (.iconst 0, 1) := by decide +kernel
theorem dX9_expression_131 : decode cX9_expression 131 = .ok (.laload, 1) := by decide +kernel
theorem dX9_expression_132 : decode cX9_expression 132 = .ok (.l2i, 1) := by decide +kernel
theorem dX9_expression_133 : decode cX9_expression 133 = .ok (.ireturn, 1) := by decide +kernel
theorem dX9_margin_0 : decode cX9_margin 0 = .ok (.iconst 1, 1) := by decide +kernel
theorem dX9_margin_1 : decode cX9_margin 1 = .ok (.sipush 1000, 3) := by decide +kernel
theorem dX9_margin_4 : decode cX9_margin 4 = .ok (.aload_n 0, 1) := by decide +kernel
theorem dX9_margin_5 : decode cX9_margin 5 = .ok (.getfield 18, 3) := by decide +kernel
theorem dX9_margin_8 : decode cX9_margin 8 = .ok (.bipush 13, 2) := by decide +kernel
theorem dX9_margin_10 : decode cX9_margin 10 = .ok (.iaload, 1) := by decide +kernel
theorem dX9_margin_11 : decode cX9_margin 11 = .ok (.iconst 1, 1) := by decide +kernel
theorem dX9_margin_12 : decode cX9_margin 12 = .ok (.if_icmp .ne 11, 3) := by decide +kernel
theorem dX9_margin_15 : decode cX9_margin 15 = .ok (.aload_n 0, 1) := by decide +kernel
theorem dX9_margin_16 : decode cX9_margin 16 = .ok (.iload_n 1, 1) := by decide +kernel
theorem dX9_margin_17 : decode cX9_margin 17 = .ok (.invokevirtual 210, 3) := by decide +kernel
theorem dX9_margin_20 : decode cX9_margin 20 = .ok (.goto 11, 3) := by decide +kernel
theorem dX9_margin_23 : decode cX9_margin 23 = .ok (.iconst 2, 1) := by decide +kernel
theorem dX9_margin_24 : decode cX9_margin 24 = .ok (.aload_n 0, 1) := by decide +kernel
theorem dX9_margin_25 : decode cX9_margin 25 = .ok (.invokevirtual 197, 3) := by decide +kernel
theorem dX9_margin_28 : decode cX9_margin 28 = .ok (.imul, 1) := by decide +kernel
theorem dX9_margin_29 : decode cX9_margin 29 = .ok (.iconst 1, 1) := by decide +kernel
theorem dX9_margin_30 : decode cX9_margin 30 = .ok (.iadd, 1) := by decide +kernel
theorem dX9_margin_31 : decode cX9_margin 31 = .ok (.invokestatic 98, 3) := by decide +kernel
theorem dX9_margin_34 : decode cX9_margin 34 = .ok (.invokestatic 186, 3) := by decide +kernel
theorem dX9_margin_37 : decode cX9_margin 37 = .ok (.ireturn, 1) := by decide +kernel
theorem dX9_send_0 : decode cX9_send 0 = .ok (.aload_n 0, 1) := by decide +kernel
theorem dX9_send_1 : decode cX9_send 1 = .ok (.getfield 18, 3) := by decide +kernel
theorem dX9_send_4 : decode cX9_send 4 = .ok (.iload_n 2, 1) := by decide +kernel
theorem dX9_send_5 : decode cX9_send 5 = .ok (.iload_n 3, 1) := by decide +kernel
theorem dX9_send_6 : decode cX9_send 6 = .ok (.invokestatic 145, 3) := by decide +kernel
theorem dX9_send_9 : decode cX9_send 9 = .ok (.iaload, 1) := by decide +kernel
theorem dX9_send_10 : decode cX9_send 10 = .ok (.istore 7, 2) := by decide +kernel
theorem dX9_send_12 : decode cX9_send 12 = .ok (.aload_n 0, 1) := by decide +kernel
theorem dX9_send_13 : decode cX9_send 13 = .ok (.getfield 18, 3) := by decide +kernel
theorem dX9_send_16 : decode cX9_send 16 = .ok (.iconst 4, 1) := by decide +kernel
theorem dX9_send_17 : decode cX9_send 17 = .ok (.iaload, 1) := by decide +kernel
theorem dX9_send_18 : decode cX9_send 18 = .ok (.istore 8, 2) := by decide +kernel
theorem dX9_send_20 : decode cX9_send 20 = .ok (.aload_n 0, 1) := by decide +kernel
theorem dX9_send_21 : decode cX9_send 21 = .ok (.getfield 18, 3) := by decide +kernel
theorem dX9_send_24 : decode cX9_send 24 = .ok (.iconst 4, 1) := by decide +kernel
theorem dX9_send_25 : decode cX9_send 25 = .ok (.dup2, 1) := by decide +kernel
theorem dX9_send_26 : decode cX9_send 26 = .ok (.iaload, 1) := by decide +kernel
theorem dX9_send_27 : decode cX9_send 27 = .ok (.iconst 1, 1) := by decide +kernel
theorem dX9_send_28 : decode cX9_send 28 = .ok (.iadd, 1) := by decide +kernel
theorem dX9_send_29 : decode cX9_send 29 = .ok (.iastore, 1) := by decide +kernel
theorem dX9_send_30 : decode cX9_send 30 = .ok (.iload 7, 2) := by decide +kernel
theorem dX9_send_32 : decode cX9_send 32 = .ok (.ifCond .le 15, 3) := by decide +kernel
theorem dX9_send_35 : decode cX9_send 35 = .ok (.aload_n 0, 1) := by decide +kernel
theorem dX9_send_36 : decode cX9_send 36 = .ok (.getfield 18, 3) := by decide +kernel
theorem dX9_send_39 : decode cX9_send 39 = .ok (.iconst 3, 1) := by decide +kernel
theorem dX9_send_40 : decode cX9_send 40 = .ok (.iaload, 1) := by decide +kernel
theorem dX9_send_41 : decode cX9_send 41 = .ok (.sipush 7400, 3) := by decide +kernel
theorem dX9_send_44 : decode cX9_send 44 = .ok (.if_icmp .ne 15, 3) := by decide +kernel
theorem dX9_send_47 : decode cX9_send 47 = .ok (.aload_n 0, 1) := by decide +kernel
theorem dX9_send_48 : decode cX9_send 48 = .ok (.getfield 18, 3) := by decide +kernel
theorem dX9_send_51 : decode cX9_send 51 = .ok (.iconst 5, 1) := by decide +kernel
theorem dX9_send_52 : decode cX9_send 52 = .ok (.dup2, 1) := by decide +kernel
theorem dX9_send_53 : decode cX9_send 53 = .ok (.iaload, 1) := by decide +kernel
theorem dX9_send_54 : decode cX9_send 54 = .ok (.iconst 1, 1) := by decide +kernel
theorem dX9_send_55 : decode cX9_send 55 = .ok (.iadd, 1) := by decide +kernel
theorem dX9_send_56 : decode cX9_send 56 = .ok (.iastore, 1) := by decide +kernel
theorem dX9_send_57 : decode cX9_send 57 = .ok (.iconst 0, 1) := by decide +kernel
theorem dX9_send_58 : decode cX9_send 58 = .ok (.ireturn, 1) := by decide +kernel
theorem dX9_send_59 : decode cX9_send 59 = .ok (.sipush 1383, 3) := by decide +kernel
theorem dX9_send_62 : decode cX9_send 62 = .ok (.bipush 6, 2) := by decide +kernel
theorem dX9_send_64 : decode cX9_send 64 = .ok (.aload_n 0, 1) := by decide +kernel
theorem dX9_send_65 : decode cX9_send 65 = .ok (.getfield 18, 3) := by decide +kernel
theorem dX9_send_68 : decode cX9_send 68 = .ok (.iconst 3, 1) := by decide +kernel
theorem dX9_send_69 : decode cX9_send 69 = .ok (.iaload, 1) := by decide +kernel
theorem dX9_send_70 : decode cX9_send 70 = .ok (.imul, 1) := by decide +kernel
theorem dX9_send_71 : decode cX9_send 71 = .ok (.iadd, 1) := by decide +kernel
theorem dX9_send_72 : decode cX9_send 72 = .ok (.istore 9, 2) := by decide +kernel
theorem dX9_send_74 : decode cX9_send 74 = .ok (.aload_n 0, 1) := by decide +kernel
theorem dX9_send_75 : decode cX9_send 75 = .ok (.getfield 18, 3) := by decide +kernel
theorem dX9_send_78 : decode cX9_send 78 = .ok (.iload 9, 2) := by decide +kernel
theorem dX9_send_80 : decode cX9_send 80 = .ok (.iconst 0, 1) := by decide +kernel
theorem dX9_send_81 : decode cX9_send 81 = .ok (.iadd, 1) := by decide +kernel
theorem dX9_send_82 : decode cX9_send 82 = .ok (.iload_n 1, 1) := by decide +kernel
theorem dX9_send_83 : decode cX9_send 83 = .ok (.bipush 8, 2) := by decide +kernel
theorem dX9_send_85 : decode cX9_send 85 = .ok (.iload_n 2, 1) := by decide +kernel
theorem dX9_send_86 : decode cX9_send 86 = .ok (.imul, 1) := by decide +kernel
theorem dX9_send_87 : decode cX9_send 87 = .ok (.iadd, 1) := by decide +kernel
theorem dX9_send_88 : decode cX9_send 88 = .ok (.bipush 64, 2) := by decide +kernel
theorem dX9_send_90 : decode cX9_send 90 = .ok (.iload_n 3, 1) := by decide +kernel
theorem dX9_send_91 : decode cX9_send 91 = .ok (.imul, 1) := by decide +kernel
theorem dX9_send_92 : decode cX9_send 92 = .ok (.iadd, 1) := by decide +kernel
theorem dX9_send_93 : decode cX9_send 93 = .ok (.iastore, 1) := by decide +kernel
theorem dX9_send_94 : decode cX9_send 94 = .ok (.aload_n 0, 1) := by decide +kernel
theorem dX9_send_95 : decode cX9_send 95 = .ok (.getfield 18, 3) := by decide +kernel
theorem dX9_send_98 : decode cX9_send 98 = .ok (.iload 9, 2) := by decide +kernel
theorem dX9_send_100 : decode cX9_send 100 = .ok (.iconst 1, 1) := by decide +kernel
theorem dX9_send_101 : decode cX9_send 101 = .ok (.iadd, 1) := by decide +kernel
theorem dX9_send_102 : decode cX9_send 102 = .ok (.aload_n 0, 1) := by decide +kernel
theorem dX9_send_103 : decode cX9_send 103 = .ok (.getfield 18, 3) := by decide +kernel
theorem dX9_send_106 : decode cX9_send 106 = .ok (.iconst 1, 1) := by decide +kernel
theorem dX9_send_107 : decode cX9_send 107 = .ok (.iaload, 1) := by decide +kernel
theorem dX9_send_108 : decode cX9_send 108 = .ok (.iload 7, 2) := by decide +kernel
theorem dX9_send_110 : decode cX9_send 110 = .ok (.iadd, 1) := by decide +kernel
theorem dX9_send_111 : decode cX9_send 111 = .ok (.iastore, 1) := by decide +kernel
theorem dX9_send_112 : decode cX9_send 112 = .ok (.aload_n 0, 1) := by decide +kernel
theorem dX9_send_113 : decode cX9_send 113 = .ok (.getfield 18, 3) := by decide +kernel
theorem dX9_send_116 : decode cX9_send 116 = .ok (.iload 9, 2) := by decide +kernel
theorem dX9_send_118 : decode cX9_send 118 = .ok (.iconst 2, 1) := by decide +kernel
theorem dX9_send_119 : decode cX9_send 119 = .ok (.iadd, 1) := by decide +kernel
theorem dX9_send_120 : decode cX9_send 120 = .ok (.iload 8, 2) := by decide +kernel
theorem dX9_send_122 : decode cX9_send 122 = .ok (.iastore, 1) := by decide +kernel
theorem dX9_send_123 : decode cX9_send 123 = .ok (.aload_n 0, 1) := by decide +kernel
theorem dX9_send_124 : decode cX9_send 124 = .ok (.getfield 18, 3) := by decide +kernel
theorem dX9_send_127 : decode cX9_send 127 = .ok (.iload 9, 2) := by decide +kernel
theorem dX9_send_129 : decode cX9_send 129 = .ok (.iconst 3, 1) := by decide +kernel
theorem dX9_send_130 : decode cX9_send 130 = .ok (.iadd, 1) := by decide +kernel
theorem dX9_send_131 : decode cX9_send 131 = .ok (.iload 4, 2) := by decide +kernel
theorem dX9_send_133 : decode cX9_send 133 = .ok (.iastore, 1) := by decide +kernel
theorem dX9_send_134 : decode cX9_send 134 = .ok (.aload_n 0, 1) := by decide +kernel
theorem dX9_send_135 : decode cX9_send 135 = .ok (.getfield 18, 3) := by decide +kernel
theorem dX9_send_138 : decode cX9_send 138 = .ok (.iload 9, 2) := by decide +kernel
theorem dX9_send_140 : decode cX9_send 140 = .ok (.iconst 4, 1) := by decide +kernel
theorem dX9_send_141 : decode cX9_send 141 = .ok (.iadd, 1) := by decide +kernel
theorem dX9_send_142 : decode cX9_send 142 = .ok (.iload 5, 2) := by decide +kernel
theorem dX9_send_144 : decode cX9_send 144 = .ok (.iastore, 1) := by decide +kernel
theorem dX9_send_145 : decode cX9_send 145 = .ok (.aload_n 0, 1) := by decide +kernel
theorem dX9_send_146 : decode cX9_send 146 = .ok (.getfield 18, 3) := by decide +kernel
theorem dX9_send_149 : decode cX9_send 149 = .ok (.iload 9, 2) := by decide +kernel
theorem dX9_send_151 : decode cX9_send 151 = .ok (.iconst 5, 1) := by decide +kernel
theorem dX9_send_152 : decode cX9_send 152 = .ok (.iadd, 1) := by decide +kernel
theorem dX9_send_153 : decode cX9_send 153 = .ok (.iload 6, 2) := by decide +kernel
theorem dX9_send_155 : decode cX9_send 155 = .ok (.iastore, 1) := by decide +kernel
theorem dX9_send_156 : decode cX9_send 156 = .ok (.aload_n 0, 1) := by decide +kernel
theorem dX9_send_157 : decode cX9_send 157 = .ok (.getfield 18, 3) := by decide +kernel
theorem dX9_send_160 : decode cX9_send 160 = .ok (.iconst 3, 1) := by decide +kernel
theorem dX9_send_161 : decode cX9_send 161 = .ok (.dup2, 1) := by decide +kernel
theorem dX9_send_162 : decode cX9_send 162 = .ok (.iaload, 1) := by decide +kernel
theorem dX9_send_163 : decode cX9_send 163 = .ok (.iconst 1, 1) := by decide +kernel
theorem dX9_send_164 : decode cX9_send 164 = .ok (.iadd, 1) := by decide +kernel
theorem dX9_send_165 : decode cX9_send 165 = .ok (.iastore, 1) := by decide +kernel
theorem dX9_send_166 : decode cX9_send 166 = .ok (.iconst 1, 1) := by decide +kernel
theorem dX9_send_167 : decode cX9_send 167 = .ok (.ireturn, 1) := by decide +kernel
theorem dX9_sendToOthers_0 : decode cX9_sendToOthers 0 = .ok (.iconst 0, 1) := by decide +kernel
theorem dX9_sendToOthers_1 : decode cX9_sendToOthers 1 = .ok (.istore 6, 2) := by decide +kernel
theorem dX9_sendToOthers_3 : decode cX9_sendToOthers 3 = .ok (.iload 6, 2) := by decide +kernel
theorem dX9_sendToOthers_5 : decode cX9_sendToOthers 5 = .ok (.aload_n 0, 1) := by decide +kernel
theorem dX9_sendToOthers_6 : decode cX9_sendToOthers 6 = .ok (.getfield 18, 3) := by decide +kernel
theorem dX9_sendToOthers_9 : decode cX9_sendToOthers 9 = .ok (.iconst 0, 1) := by decide +kernel
theorem dX9_sendToOthers_10 : decode cX9_sendToOthers 10 = .ok (.iaload, 1) := by decide +kernel
theorem dX9_sendToOthers_11 : decode cX9_sendToOthers 11 = .ok (.if_icmp .ge 29, 3) := by decide +kernel
theorem dX9_sendToOthers_14 : decode cX9_sendToOthers 14 = .ok (.iload 6, 2) := by decide +kernel
theorem dX9_sendToOthers_16 : decode cX9_sendToOthers 16 = .ok (.iload_n 2, 1) := by decide +kernel
theorem dX9_sendToOthers_17 : decode cX9_sendToOthers 17 = .ok (.if_icmp .eq 17, 3) := by decide +kernel
theorem dX9_sendToOthers_20 : decode cX9_sendToOthers 20 = .ok (.aload_n 0, 1) := by decide +kernel
theorem dX9_sendToOthers_21 : decode cX9_sendToOthers 21 = .ok (.iload_n 1, 1) := by decide +kernel
theorem dX9_sendToOthers_22 : decode cX9_sendToOthers 22 = .ok (.iload_n 2, 1) := by decide +kernel
theorem dX9_sendToOthers_23 : decode cX9_sendToOthers 23 = .ok (.iload 6, 2) := by decide +kernel
theorem dX9_sendToOthers_25 : decode cX9_sendToOthers 25 = .ok (.iload_n 3, 1) := by decide +kernel
theorem dX9_sendToOthers_26 : decode cX9_sendToOthers 26 = .ok (.iload 4, 2) := by decide +kernel
theorem dX9_sendToOthers_28 : decode cX9_sendToOthers 28 = .ok (.iload 5, 2) := by decide +kernel
theorem dX9_sendToOthers_30 : decode cX9_sendToOthers 30 = .ok (.invokevirtual 213, 3) := by decide +kernel
theorem dX9_sendToOthers_33 : decode cX9_sendToOthers 33 = .ok (.pop, 1) := by decide +kernel
theorem dX9_sendToOthers_34 : decode cX9_sendToOthers 34 = .ok (.iinc 6 1, 3) := by decide +kernel
theorem dX9_sendToOthers_37 : decode cX9_sendToOthers 37 = .ok (.goto (-34), 3) := by decide +kernel
theorem dX9_sendToOthers_40 : decode cX9_sendToOthers 40 = .ok (.return_, 1) := by decide +kernel
theorem dX9_isOpen_0 : decode cX9_isOpen 0 = .ok (.aload_n 0, 1) := by decide +kernel
theorem dX9_isOpen_1 : decode cX9_isOpen 1 = .ok (.getfield 18, 3) := by decide +kernel
theorem dX9_isOpen_4 : decode cX9_isOpen 4 = .ok (.bipush 6, 2) := by decide +kernel
theorem dX9_isOpen_6 : decode cX9_isOpen 6 = .ok (.iaload, 1) := by decide +kernel
theorem dX9_isOpen_7 : decode cX9_isOpen 7 = .ok (.ifCond .le 17, 3) := by decide +kernel
theorem dX9_isOpen_10 : decode cX9_isOpen 10 = .ok (.aload_n 0, 1) := by decide +kernel
theorem dX9_isOpen_11 : decode cX9_isOpen 11 = .ok (.getfield 18, 3) := by decide +kernel
theorem dX9_isOpen_14 : decode cX9_isOpen 14 = .ok (.bipush 20, 2) := by decide +kernel
theorem dX9_isOpen_16 : decode cX9_isOpen 16 = .ok (.iaload, 1) := by decide +kernel
theorem dX9_isOpen_17 : decode cX9_isOpen 17 = .ok (.ifCond .ne 7, 3) := by decide +kernel
theorem dX9_isOpen_20 : decode cX9_isOpen 20 = .ok (.iconst 1, 1) := by decide +kernel
theorem dX9_isOpen_21 : decode cX9_isOpen 21 = .ok (.goto 4, 3) := by decide +kernel
theorem dX9_isOpen_24 : decode cX9_isOpen 24 = .ok (.iconst 0, 1) := by decide +kernel
theorem dX9_isOpen_25 : decode cX9_isOpen 25 = .ok (.ireturn, 1) := by decide +kernel
theorem dX9_plan_0 : decode cX9_plan 0 = .ok (.aload_n 0, 1) := by decide +kernel
theorem dX9_plan_1 : decode cX9_plan 1 = .ok (.iload_n 1, 1) := by decide +kernel
theorem dX9_plan_2 : decode cX9_plan 2 = .ok (.iconst 5, 1) := by decide +kernel
theorem dX9_plan_3 : decode cX9_plan 3 = .ok (.invokevirtual 181, 3) := by decide +kernel
theorem dX9_plan_6 : decode cX9_plan 6 = .ok (.ifCond .eq 15, 3) := by decide +kernel
theorem dX9_plan_9 : decode cX9_plan 9 = .ok (.aload_n 0, 1) := by decide +kernel
theorem dX9_plan_10 : decode cX9_plan 10 = .ok (.iload_n 1, 1) := by decide +kernel
theorem dX9_plan_11 : decode cX9_plan 11 = .ok (.bipush 6, 2) := by decide +kernel
theorem dX9_plan_13 : decode cX9_plan 13 = .ok (.invokevirtual 181, 3) := by decide +kernel
theorem dX9_plan_16 : decode cX9_plan 16 = .ok (.iload_n 3, 1) := by decide +kernel
theorem dX9_plan_17 : decode cX9_plan 17 = .ok (.if_icmp .le 4, 3) := by decide +kernel
theorem dX9_plan_20 : decode cX9_plan 20 = .ok (.return_, 1) := by decide +kernel
theorem dX9_plan_21 : decode cX9_plan 21 = .ok (.aload_n 0, 1) := by decide +kernel
theorem dX9_plan_22 : decode cX9_plan 22 = .ok (.iload_n 1, 1) := by decide +kernel
theorem dX9_plan_23 : decode cX9_plan 23 = .ok (.iconst 5, 1) := by decide +kernel
theorem dX9_plan_24 : decode cX9_plan 24 = .ok (.iload_n 2, 1) := by decide +kernel
theorem dX9_plan_25 : decode cX9_plan 25 = .ok (.invokevirtual 217, 3) := by decide +kernel
theorem dX9_plan_28 : decode cX9_plan 28 = .ok (.aload_n 0, 1) := by decide +kernel
theorem dX9_plan_29 : decode cX9_plan 29 = .ok (.iload_n 1, 1) := by decide +kernel
theorem dX9_plan_30 : decode cX9_plan 30 = .ok (.bipush 6, 2) := by decide +kernel
theorem dX9_plan_32 : decode cX9_plan 32 = .ok (.iload_n 3, 1) := by decide +kernel
theorem dX9_plan_33 : decode cX9_plan 33 = .ok (.invokevirtual 217, 3) := by decide +kernel
theorem dX9_plan_36 : decode cX9_plan 36 = .ok (.aload_n 0, 1) := by decide +kernel
theorem dX9_plan_37 : decode cX9_plan 37 = .ok (.iload_n 1, 1) := by decide +kernel
theorem dX9_plan_38 : decode cX9_plan 38 = .ok (.bipush 8, 2) := by decide +kernel
theorem dX9_plan_40 : decode cX9_plan 40 = .ok (.iload 4, 2) := by decide +kernel
theorem dX9_plan_42 : decode cX9_plan 42 = .ok (.invokevirtual 217, 3) := by decide +kernel
theorem dX9_plan_45 : decode cX9_plan 45 = .ok (.aload_n 0, 1) := by decide +kernel
theorem dX9_plan_46 : decode cX9_plan 46 = .ok (.iload_n 1, 1) := by decide +kernel
theorem dX9_plan_47 : decode cX9_plan 47 = .ok (.bipush 7, 2) := by decide +kernel
theorem dX9_plan_49 : decode cX9_plan 49 = .ok (.iload 5, 2) := by decide +kernel
theorem dX9_plan_51 : decode cX9_plan 51 = .ok (.invokevirtual 217, 3) := by decide +kernel
theorem dX9_plan_54 : decode cX9_plan 54 = .ok (.return_, 1) := by decide +kernel
theorem dX9_dropPlan_0 : decode cX9_dropPlan 0 = .ok (.aload_n 0, 1) := by decide +kernel
theorem dX9_dropPlan_1 : decode cX9_dropPlan 1 = .ok (.iload_n 1, 1) := by decide +kernel
theorem dX9_dropPlan_2 : decode cX9_dropPlan 2 = .ok (.iconst 5, 1) := by decide +kernel
theorem dX9_dropPlan_3 : decode cX9_dropPlan 3 = .ok (.iconst 0, 1) := by decide +kernel
theorem dX9_dropPlan_4 : decode cX9_dropPlan 4 = .ok (.invokevirtual 217, 3) := by decide +kernel
theorem dX9_dropPlan_7 : decode cX9_dropPlan 7 = .ok (.aload_n 0, 1) := by decide +kernel
theorem dX9_dropPlan_8 : decode cX9_dropPlan 8 = .ok (.iload_n 1, 1) := by decide +kernel
theorem dX9_dropPlan_9 : decode cX9_dropPlan 9 = .ok (.bipush 6, 2) := by decide +kernel
theorem dX9_dropPlan_11 : decode cX9_dropPlan 11 = .ok (.iconst (-1), 1) := by decide +kernel
theorem dX9_dropPlan_12 : decode cX9_dropPlan 12 = .ok (.invokevirtual 217, 3) := by decide +kernel
theorem dX9_dropPlan_15 : decode cX9_dropPlan 15 = .ok (.return_, 1) := by decide +kernel
theorem dX9_vote_0 : decode cX9_vote 0 = .ok (.aload_n 0, 1) := by decide +kernel
theorem dX9_vote_1 : decode cX9_vote 1 = .ok (.getfield 18, 3) := by decide +kernel
theorem dX9_vote_4 : decode cX9_vote 4 = .ok (.bipush 19, 2) := by decide +kernel
theorem dX9_vote_6 : decode cX9_vote 6 = .ok (.dup2, 1) := by decide +kernel
theorem dX9_vote_7 : decode cX9_vote 7 = .ok (.iaload, 1) := by decide +kernel
theorem dX9_vote_8 : decode cX9_vote 8 = .ok (.iconst 1, 1) := by decide +kernel
theorem dX9_vote_9 : decode cX9_vote 9 = .ok (.iadd, 1) := by decide +kernel
theorem dX9_vote_10 : decode cX9_vote 10 = .ok (.iastore, 1) := by decide +kernel
theorem dX9_vote_11 : decode cX9_vote 11 = .ok (.aload_n 0, 1) := by decide +kernel
theorem dX9_vote_12 : decode cX9_vote 12 = .ok (.getfield 18, 3) := by decide +kernel
theorem dX9_vote_15 : decode cX9_vote 15 = .ok (.bipush 19, 2) := by decide +kernel
theorem dX9_vote_17 : decode cX9_vote 17 = .ok (.iaload, 1) := by decide +kernel
theorem dX9_vote_18 : decode cX9_vote 18 = .ok (.aload_n 0, 1) := by decide +kernel
theorem dX9_vote_19 : decode cX9_vote 19 = .ok (.getfield 18, 3) := by decide +kernel
theorem dX9_vote_22 : decode cX9_vote 22 = .ok (.bipush 11, 2) := by decide +kernel
theorem dX9_vote_24 : decode cX9_vote 24 = .ok (.iaload, 1) := by decide +kernel
theorem dX9_vote_25 : decode cX9_vote 25 = .ok (.if_icmp .ge 4, 3) := by decide +kernel
theorem dX9_vote_28 : decode cX9_vote 28 = .ok (.return_, 1) := by decide +kernel
theorem dX9_vote_29 : decode cX9_vote 29 = .ok (.aload_n 0, 1) := by decide +kernel
theorem dX9_vote_30 : decode cX9_vote 30 = .ok (.getfield 18, 3) := by decide +kernel
theorem dX9_vote_33 : decode cX9_vote 33 = .ok (.bipush 20, 2) := by decide +kernel
theorem dX9_vote_35 : decode cX9_vote 35 = .ok (.iconst 1, 1) := by decide +kernel
theorem dX9_vote_36 : decode cX9_vote 36 = .ok (.iastore, 1) := by decide +kernel
theorem dX9_vote_37 : decode cX9_vote 37 = .ok (.aload_n 0, 1) := by decide +kernel
theorem dX9_vote_38 : decode cX9_vote 38 = .ok (.getfield 18, 3) := by decide +kernel
theorem dX9_vote_41 : decode cX9_vote 41 = .ok (.bipush 7, 2) := by decide +kernel
theorem dX9_vote_43 : decode cX9_vote 43 = .ok (.dup2, 1) := by decide +kernel
theorem dX9_vote_44 : decode cX9_vote 44 = .ok (.iaload, 1) := by decide +kernel
theorem dX9_vote_45 : decode cX9_vote 45 = .ok (.iconst 1, 1) := by decide +kernel
theorem dX9_vote_46 : decode cX9_vote 46 = .ok (.iadd, 1) := by decide +kernel
theorem dX9_vote_47 : decode cX9_vote 47 = .ok (.iastore, 1) := by decide +kernel
theorem dX9_vote_48 : decode cX9_vote 48 = .ok (.aload_n 0, 1) := by decide +kernel
theorem dX9_vote_49 : decode cX9_vote 49 = .ok (.aload_n 0, 1) := by decide +kernel
theorem dX9_vote_50 : decode cX9_vote 50 = .ok (.getfield 18, 3) := by decide +kernel
theorem dX9_vote_53 : decode cX9_vote 53 = .ok (.bipush 18, 2) := by decide +kernel
theorem dX9_vote_55 : decode cX9_vote 55 = .ok (.iaload, 1) := by decide +kernel
theorem dX9_vote_56 : decode cX9_vote 56 = .ok (.iconst 2, 1) := by decide +kernel
theorem dX9_vote_57 : decode cX9_vote 57 = .ok (.aload_n 0, 1) := by decide +kernel
theorem dX9_vote_58 : decode cX9_vote 58 = .ok (.getfield 18, 3) := by decide +kernel
theorem dX9_vote_61 : decode cX9_vote 61 = .ok (.bipush 6, 2) := by decide +kernel
theorem dX9_vote_63 : decode cX9_vote 63 = .ok (.iaload, 1) := by decide +kernel
theorem dX9_vote_64 : decode cX9_vote 64 = .ok (.iconst 1, 1) := by decide +kernel
theorem dX9_vote_65 : decode cX9_vote 65 = .ok (.isub, 1) := by decide +kernel
theorem dX9_vote_66 : decode cX9_vote 66 = .ok (.aload_n 0, 1) := by decide +kernel
theorem dX9_vote_67 : decode cX9_vote 67 = .ok (.getfield 18, 3) := by decide +kernel
theorem dX9_vote_70 : decode cX9_vote 70 = .ok (.bipush 16, 2) := by decide +kernel
theorem dX9_vote_72 : decode cX9_vote 72 = .ok (.iaload, 1) := by decide +kernel
theorem dX9_vote_73 : decode cX9_vote 73 = .ok (.aload_n 0, 1) := by decide +kernel
theorem dX9_vote_74 : decode cX9_vote 74 = .ok (.getfield 18, 3) := by decide +kernel
theorem dX9_vote_77 : decode cX9_vote 77 = .ok (.bipush 15, 2) := by decide +kernel
theorem dX9_vote_79 : decode cX9_vote 79 = .ok (.iaload, 1) := by decide +kernel
theorem dX9_vote_80 : decode cX9_vote 80 = .ok (.invokevirtual 221, 3) := by decide +kernel
theorem dX9_vote_83 : decode cX9_vote 83 = .ok (.aload_n 0, 1) := by decide +kernel
theorem dX9_vote_84 : decode cX9_vote 84 = .ok (.iconst 4, 1) := by decide +kernel
theorem dX9_vote_85 : decode cX9_vote 85 = .ok (.aload_n 0, 1) := by decide +kernel
theorem dX9_vote_86 : decode cX9_vote 86 = .ok (.getfield 18, 3) := by decide +kernel
theorem dX9_vote_89 : decode cX9_vote 89 = .ok (.bipush 18, 2) := by decide +kernel
theorem dX9_vote_91 : decode cX9_vote 91 = .ok (.iaload, 1) := by decide +kernel
theorem dX9_vote_92 : decode cX9_vote 92 = .ok (.aload_n 0, 1) := by decide +kernel
theorem dX9_vote_93 : decode cX9_vote 93 = .ok (.getfield 18, 3) := by decide +kernel
theorem dX9_vote_96 : decode cX9_vote 96 = .ok (.bipush 6, 2) := by decide +kernel
theorem dX9_vote_98 : decode cX9_vote 98 = .ok (.iaload, 1) := by decide +kernel
theorem dX9_vote_99 : decode cX9_vote 99 = .ok (.iconst 1, 1) := by decide +kernel
theorem dX9_vote_100 : decode cX9_vote 100 = .ok (.isub, 1) := by decide +kernel
theorem dX9_vote_101 : decode cX9_vote 101 = .ok (.aload_n 0, 1) := by decide +kernel
theorem dX9_vote_102 : decode cX9_vote 102 = .ok (.getfield 18, 3) := by decide +kernel
theorem dX9_vote_105 : decode cX9_vote 105 = .ok (.bipush 16, 2) := by decide +kernel
theorem dX9_vote_107 : decode cX9_vote 107 = .ok (.iaload, 1) := by decide +kernel
theorem dX9_vote_108 : decode cX9_vote 108 = .ok (.aload_n 0, 1) := by decide +kernel
theorem dX9_vote_109 : decode cX9_vote 109 = .ok (.getfield 18, 3) := by decide +kernel
theorem dX9_vote_112 : decode cX9_vote 112 = .ok (.bipush 15, 2) := by decide +kernel
theorem dX9_vote_114 : decode cX9_vote 114 = .ok (.iaload, 1) := by decide +kernel
theorem dX9_vote_115 : decode cX9_vote 115 = .ok (.invokevirtual 225, 3) := by decide +kernel
theorem dX9_vote_118 : decode cX9_vote 118 = .ok (.return_, 1) := by decide +kernel
theorem dX9_handle_0 : decode cX9_handle 0 = .ok (.aload_n 0, 1) := by decide +kernel
theorem dX9_handle_1 : decode cX9_handle 1 = .ok (.iload_n 3, 1) := by decide +kernel
theorem dX9_handle_2 : decode cX9_handle 2 = .ok (.invokevirtual 228, 3) := by decide +kernel
theorem dX9_handle_5 : decode cX9_handle 5 = .ok (.ifCond .ne 14, 3) := by decide +kernel
theorem dX9_handle_8 : decode cX9_handle 8 = .ok (.aload_n 0, 1) := by decide +kernel
theorem dX9_handle_9 : decode cX9_handle 9 = .ok (.getfield 18, 3) := by decide +kernel
theorem dX9_handle_12 : decode cX9_handle 12 = .ok (.iconst 5, 1) := by decide +kernel
theorem dX9_handle_13 : decode cX9_handle 13 = .ok (.dup2, 1) := by decide +kernel
theorem dX9_handle_14 : decode cX9_handle 14 = .ok (.iaload, 1) := by decide +kernel
theorem dX9_handle_15 : decode cX9_handle 15 = .ok (.iconst 1, 1) := by decide +kernel
theorem dX9_handle_16 : decode cX9_handle 16 = .ok (.iadd, 1) := by decide +kernel
theorem dX9_handle_17 : decode cX9_handle 17 = .ok (.iastore, 1) := by decide +kernel
theorem dX9_handle_18 : decode cX9_handle 18 = .ok (.return_, 1) := by decide +kernel
theorem dX9_handle_19 : decode cX9_handle 19 = .ok (.iload_n 1, 1) := by decide +kernel
theorem dX9_handle_20 : decode cX9_handle 20 = .ok (.tableswitch 178 0 4 #[36, 55, 97, 124, 163], 36) := by decide +kernel
theorem dX9_handle_56 : decode cX9_handle 56 = .ok (.aload_n 0, 1) := by decide +kernel
theorem dX9_handle_57 : decode cX9_handle 57 = .ok (.iconst 1, 1) := by decide +kernel
theorem dX9_handle_58 : decode cX9_handle 58 = .ok (.iload_n 3, 1) := by decide +kernel
theorem dX9_handle_59 : decode cX9_handle 59 = .ok (.iload_n 2, 1) := by decide +kernel
theorem dX9_handle_60 : decode cX9_handle 60 = .ok (.iconst (-1), 1) := by decide +kernel
theorem dX9_handle_61 : decode cX9_handle 61 = .ok (.aload_n 0, 1) := by decide +kernel
theorem dX9_handle_62 : decode cX9_handle 62 = .ok (.iload_n 3, 1) := by decide +kernel
theorem dX9_handle_63 : decode cX9_handle 63 = .ok (.invokevirtual 184, 3) := by decide +kernel
theorem dX9_handle_66 : decode cX9_handle 66 = .ok (.iload 5, 2) := by decide +kernel
theorem dX9_handle_68 : decode cX9_handle 68 = .ok (.invokevirtual 213, 3) := by decide +kernel
theorem dX9_handle_71 : decode cX9_handle 71 = .ok (.pop, 1) := by decide +kernel
theorem dX9_handle_72 : decode cX9_handle 72 = .ok (.goto 153, 3) := by decide +kernel
theorem dX9_handle_75 : decode cX9_handle 75 = .ok (.aload_n 0, 1) := by decide +kernel
theorem dX9_handle_76 : decode cX9_handle 76 = .ok (.iload_n 3, 1) := by decide +kernel
theorem dX9_handle_77 : decode cX9_handle 77 = .ok (.iconst 3, 1) := by decide +kernel
theorem dX9_handle_78 : decode cX9_handle 78 = .ok (.iload_n 3, 1) := by decide +kernel
theorem dX9_handle_79 : decode cX9_handle 79 = .ok (.aload_n 0, 1) := by decide +kernel
theorem dX9_handle_80 : decode cX9_handle 80 = .ok (.getfield 18, 3) := by decide +kernel
theorem dX9_handle_83 : decode cX9_handle 83 = .ok (.iconst 2, 1) := by decide +kernel
theorem dX9_handle_84 : decode cX9_handle 84 = .ok (.iaload, 1) := by decide +kernel
theorem dX9_handle_85 : decode cX9_handle 85 = .ok (.if_icmp .ne 7, 3) := by decide +kernel
theorem dX9_handle_88 : decode cX9_handle 88 = .ok (.iconst 0, 1) := by decide +kernel
theorem dX9_handle_89 : decode cX9_handle 89 = .ok (.goto 22, 3) := by decide +kernel
theorem dX9_handle_92 : decode cX9_handle 92 = .ok (.iload 5, 2) := by decide +kernel
theorem dX9_handle_94 : decode cX9_handle 94 = .ok (.aload_n 0, 1) := by decide +kernel
theorem dX9_handle_95 : decode cX9_handle 95 = .ok (.iload_n 3, 1) := by decide +kernel
theorem dX9_handle_96 : decode cX9_handle 96 = .ok (.invokevirtual 184, 3) := by decide +kernel
theorem dX9_handle_99 : decode cX9_handle 99 = .ok (.iload 6, 2) := by decide +kernel
theorem dX9_handle_101 : decode cX9_handle 101 = .ok (.isub, 1) := by decide +kernel
theorem dX9_handle_102 : decode cX9_handle 102 = .ok (.iconst 2, 1) := by decide +kernel
theorem dX9_handle_103 : decode cX9_handle 103 = .ok (.idiv, 1) := by decide +kernel
theorem dX9_handle_104 : decode cX9_handle 104 = .ok (.iadd, 1) := by decide +kernel
theorem dX9_handle_105 : decode cX9_handle 105 = .ok (.aload_n 0, 1) := by decide +kernel
theorem dX9_handle_106 : decode cX9_handle 106 = .ok (.iload_n 3, 1) := by decide +kernel
theorem dX9_handle_107 : decode cX9_handle 107 = .ok (.invokevirtual 184, 3) := by decide +kernel
theorem dX9_handle_110 : decode cX9_handle 110 = .ok (.isub, 1) := by decide +kernel
theorem dX9_handle_111 : decode cX9_handle 111 = .ok (.invokevirtual 217, 3) := by decide +kernel
theorem dX9_handle_114 : decode cX9_handle 114 = .ok (.goto 111, 3) := by decide +kernel
theorem dX9_handle_117 : decode cX9_handle 117 = .ok (.aload_n 0, 1) := by decide +kernel
theorem dX9_handle_118 : decode cX9_handle 118 = .ok (.iload_n 3, 1) := by decide +kernel
theorem dX9_handle_119 : decode cX9_handle 119 = .ok (.iconst 1, 1) := by decide +kernel
theorem dX9_handle_120 : decode cX9_handle 120 = .ok (.iload 4, 2) := by decide +kernel
theorem dX9_handle_122 : decode cX9_handle 122 = .ok (.iload 5, 2) := by decide +kernel
theorem dX9_handle_124 : decode cX9_handle 124 = .ok (.iload 6, 2) := by decide +kernel
theorem dX9_handle_126 : decode cX9_handle 126 = .ok (.invokevirtual 221, 3) := by decide +kernel
theorem dX9_handle_129 : decode cX9_handle 129 = .ok (.aload_n 0, 1) := by decide +kernel
theorem dX9_handle_130 : decode cX9_handle 130 = .ok (.iconst 3, 1) := by decide +kernel
theorem dX9_handle_131 : decode cX9_handle 131 = .ok (.iload_n 3, 1) := by decide +kernel
theorem dX9_handle_132 : decode cX9_handle 132 = .ok (.iload_n 2, 1) := by decide +kernel
theorem dX9_handle_133 : decode cX9_handle 133 = .ok (.iload 4, 2) := by decide +kernel
theorem dX9_handle_135 : decode cX9_handle 135 = .ok (.iconst 0, 1) := by decide +kernel
theorem dX9_handle_136 : decode cX9_handle 136 = .ok (.iconst 0, 1) := by decide +kernel
theorem dX9_handle_137 : decode cX9_handle 137 = .ok (.invokevirtual 213, 3) := by decide +kernel
theorem dX9_handle_140 : decode cX9_handle 140 = .ok (.pop, 1) := by decide +kernel
theorem dX9_handle_141 : decode cX9_handle 141 = .ok (.goto 84, 3) := by decide +kernel
theorem dX9_handle_144 : decode cX9_handle 144 = .ok (.aload_n 0, 1) := by decide +kernel
theorem dX9_handle_145 : decode cX9_handle 145 = .ok (.invokevirtual 231, 3) := by decide +kernel
theorem dX9_handle_148 : decode cX9_handle 148 = .ok (.ifCond .eq 77, 3) := by decide +kernel
theorem dX9_handle_151 : decode cX9_handle 151 = .ok (.iload 4, 2) := by decide +kernel
theorem dX9_handle_153 : decode cX9_handle 153 = .ok (.aload_n 0, 1) := by decide +kernel
theorem dX9_handle_154 : decode cX9_handle 154 = .ok (.getfield 18, 3) := by decide +kernel
theorem dX9_handle_157 : decode cX9_handle 157 = .ok (.bipush 6, 2) := by decide +kernel
theorem dX9_handle_159 : decode cX9_handle 159 = .ok (.iaload, 1) := by decide +kernel
theorem dX9_handle_160 : decode cX9_handle 160 = .ok (.iconst 1, 1) := by decide +kernel
theorem dX9_handle_161 : decode cX9_handle 161 = .ok (.isub, 1) := by decide +kernel
theorem dX9_handle_162 : decode cX9_handle 162 = .ok (.if_icmp .ne 63, 3) := by decide +kernel
theorem dX9_handle_165 : decode cX9_handle 165 = .ok (.iload_n 3, 1) := by decide +kernel
theorem dX9_handle_166 : decode cX9_handle 166 = .ok (.aload_n 0, 1) := by decide +kernel
theorem dX9_handle_167 : decode cX9_handle 167 = .ok (.getfield 18, 3) := by decide +kernel
theorem dX9_handle_170 : decode cX9_handle 170 = .ok (.bipush 18, 2) := by decide +kernel
theorem dX9_handle_172 : decode cX9_handle 172 = .ok (.iaload, 1) := by decide +kernel
theorem dX9_handle_173 : decode cX9_handle 173 = .ok (.if_icmp .ne 52, 3) := by decide +kernel
theorem dX9_handle_176 : decode cX9_handle 176 = .ok (.aload_n 0, 1) := by decide +kernel
theorem dX9_handle_177 : decode cX9_handle 177 = .ok (.invokevirtual 234, 3) := by decide +kernel
theorem dX9_handle_180 : decode cX9_handle 180 = .ok (.goto 45, 3) := by decide +kernel
theorem dX9_handle_183 : decode cX9_handle 183 = .ok (.aload_n 0, 1) := by decide +kernel
theorem dX9_handle_184 : decode cX9_handle 184 = .ok (.iload_n 3, 1) := by decide +kernel
theorem dX9_handle_185 : decode cX9_handle 185 = .ok (.iconst 2, 1) := by decide +kernel
theorem dX9_handle_186 : decode cX9_handle 186 = .ok (.iload 4, 2) := by decide +kernel
theorem dX9_handle_188 : decode cX9_handle 188 = .ok (.iload 5, 2) := by decide +kernel
theorem dX9_handle_190 : decode cX9_handle 190 = .ok (.iload 6, 2) := by decide +kernel
theorem dX9_handle_192 : decode cX9_handle 192 = .ok (.invokevirtual 221, 3) := by decide +kernel
theorem dX9_handle_195 : decode cX9_handle 195 = .ok (.goto 30, 3) := by decide +kernel
theorem dX9_handle_198 : decode cX9_handle 198 = .ok (.aload_n 0, 1) := by decide +kernel
theorem dX9_handle_199 : decode cX9_handle 199 = .ok (.iload_n 3, 1) := by decide +kernel
theorem dX9_handle_200 : decode cX9_handle 200 = .ok (.iconst 5, 1) := by decide +kernel
theorem dX9_handle_201 : decode cX9_handle 201 = .ok (.invokevirtual 181, 3) := by decide +kernel
theorem dX9_handle_204 : decode cX9_handle 204 = .ok (.iconst 1, 1) := by decide +kernel
theorem dX9_handle_205 : decode cX9_handle 205 = .ok (.if_icmp .ne 20, 3) := by decide +kernel
theorem dX9_handle_208 : decode cX9_handle 208 = .ok (.aload_n 0, 1) := by decide +kernel
theorem dX9_handle_209 : decode cX9_handle 209 = .ok (.iload_n 3, 1) := by decide +kernel
theorem dX9_handle_210 : decode cX9_handle 210 = .ok (.bipush 6, 2) := by decide +kernel
theorem dX9_handle_212 : decode cX9_handle 212 = .ok (.invokevirtual 181, 3) := by decide +kernel
theorem dX9_handle_215 : decode cX9_handle 215 = .ok (.iload 4, 2) := by decide +kernel
theorem dX9_handle_217 : decode cX9_handle 217 = .ok (.if_icmp .ne 8, 3) := by decide +kernel
theorem dX9_handle_220 : decode cX9_handle 220 = .ok (.aload_n 0, 1) := by decide +kernel
theorem dX9_handle_221 : decode cX9_handle 221 = .ok (.iload_n 3, 1) := by decide +kernel
theorem dX9_handle_222 : decode cX9_handle 222 = .ok (.invokevirtual 237, 3) := by decide +kernel
theorem dX9_handle_225 : decode cX9_handle 225 = .ok (.return_, 1) := by decide +kernel
theorem dX9_handleAll_0 : decode cX9_handleAll 0 = .ok (.aload_n 0, 1) := by decide +kernel
theorem dX9_handleAll_1 : decode cX9_handleAll 1 = .ok (.getfield 18, 3) := by decide +kernel
theorem dX9_handleAll_4 : decode cX9_handleAll 4 = .ok (.iconst 3, 1) := by decide +kernel
theorem dX9_handleAll_5 : decode cX9_handleAll 5 = .ok (.iaload, 1) := by decide +kernel
theorem dX9_handleAll_6 : decode cX9_handleAll 6 = .ok (.istore_n 1, 1) := by decide +kernel
theorem dX9_handleAll_7 : decode cX9_handleAll 7 = .ok (.iconst 0, 1) := by decide +kernel
theorem dX9_handleAll_8 : decode cX9_handleAll 8 = .ok (.istore_n 2, 1) := by decide +kernel
theorem dX9_handleAll_9 : decode cX9_handleAll 9 = .ok (.iload_n 2, 1) := by decide +kernel
theorem dX9_handleAll_10 : decode cX9_handleAll 10 = .ok (.iload_n 1, 1) := by decide +kernel
theorem dX9_handleAll_11 : decode cX9_handleAll 11 = .ok (.if_icmp .ge 91, 3) := by decide +kernel
theorem dX9_handleAll_14 : decode cX9_handleAll 14 = .ok (.sipush 1383, 3) := by decide +kernel
theorem dX9_handleAll_17 : decode cX9_handleAll 17 = .ok (.bipush 6, 2) := by decide +kernel
theorem dX9_handleAll_19 : decode cX9_handleAll 19 = .ok (.iload_n 2, 1) := by decide +kernel
theorem dX9_handleAll_20 : decode cX9_handleAll 20 = .ok (.imul, 1) := by decide +kernel
theorem dX9_handleAll_21 : decode cX9_handleAll 21 = .ok (.iadd, 1) := by decide +kernel
theorem dX9_handleAll_22 : decode cX9_handleAll 22 = .ok (.istore_n 3, 1) := by decide +kernel
theorem dX9_handleAll_23 : decode cX9_handleAll 23 = .ok (.aload_n 0, 1) := by decide +kernel
theorem dX9_handleAll_24 : decode cX9_handleAll 24 = .ok (.getfield 18, 3) := by decide +kernel
theorem dX9_handleAll_27 : decode cX9_handleAll 27 = .ok (.iload_n 3, 1) := by decide +kernel
theorem dX9_handleAll_28 : decode cX9_handleAll 28 = .ok (.iconst 0, 1) := by decide +kernel
theorem dX9_handleAll_29 : decode cX9_handleAll 29 = .ok (.iadd, 1) := by decide +kernel
theorem dX9_handleAll_30 : decode cX9_handleAll 30 = .ok (.iaload, 1) := by decide +kernel
theorem dX9_handleAll_31 : decode cX9_handleAll 31 = .ok (.istore 4, 2) := by decide +kernel
theorem dX9_handleAll_33 : decode cX9_handleAll 33 = .ok (.aload_n 0, 1) := by decide +kernel
theorem dX9_handleAll_34 : decode cX9_handleAll 34 = .ok (.getfield 18, 3) := by decide +kernel
theorem dX9_handleAll_37 : decode cX9_handleAll 37 = .ok (.iload_n 3, 1) := by decide +kernel
theorem dX9_handleAll_38 : decode cX9_handleAll 38 = .ok (.iconst 1, 1) := by decide +kernel
theorem dX9_handleAll_39 : decode cX9_handleAll 39 = .ok (.iadd, 1) := by decide +kernel
theorem dX9_handleAll_40 : decode cX9_handleAll 40 = .ok (.iaload, 1) := by decide +kernel
theorem dX9_handleAll_41 : decode cX9_handleAll 41 = .ok (.aload_n 0, 1) := by decide +kernel
theorem dX9_handleAll_42 : decode cX9_handleAll 42 = .ok (.getfield 18, 3) := by decide +kernel
theorem dX9_handleAll_45 : decode cX9_handleAll 45 = .ok (.iconst 1, 1) := by decide +kernel
theorem dX9_handleAll_46 : decode cX9_handleAll 46 = .ok (.iaload, 1) := by decide +kernel
theorem dX9_handleAll_47 : decode cX9_handleAll 47 = .ok (.if_icmp .ne 49, 3) := by decide +kernel
theorem dX9_handleAll_50 : decode cX9_handleAll 50 = .ok (.aload_n 0, 1) := by decide +kernel
theorem dX9_handleAll_51 : decode cX9_handleAll 51 = .ok (.iload 4, 2) := by decide +kernel
theorem dX9_handleAll_53 : decode cX9_handleAll 53 = .ok (.bipush 8, 2) := by decide +kernel
theorem dX9_handleAll_55 : decode cX9_handleAll 55 = .ok (.irem, 1) := by decide +kernel
theorem dX9_handleAll_56 : decode cX9_handleAll 56 = .ok (.iload 4, 2) := by decide +kernel
theorem dX9_handleAll_58 : decode cX9_handleAll 58 = .ok (.bipush 8, 2) := by decide +kernel
theorem dX9_handleAll_60 : decode cX9_handleAll 60 = .ok (.idiv, 1) := by decide +kernel
theorem dX9_handleAll_61 : decode cX9_handleAll 61 = .ok (.bipush 8, 2) := by decide +kernel
theorem dX9_handleAll_63 : decode cX9_handleAll 63 = .ok (.irem, 1) := by decide +kernel
theorem dX9_handleAll_64 : decode cX9_handleAll 64 = .ok (.iload 4, 2) := by decide +kernel
theorem dX9_handleAll_66 : decode cX9_handleAll 66 = .ok (.bipush 64, 2) := by decide +kernel
theorem dX9_handleAll_68 : decode cX9_handleAll 68 = .ok (.idiv, 1) := by decide +kernel
theorem dX9_handleAll_69 : decode cX9_handleAll 69 = .ok (.aload_n 0, 1) := by decide +kernel
theorem dX9_handleAll_70 : decode cX9_handleAll 70 = .ok (.getfield 18, 3) := by decide +kernel
theorem dX9_handleAll_73 : decode cX9_handleAll 73 = .ok (.iload_n 3, 1) := by decide +kernel
theorem dX9_handleAll_74 : decode cX9_handleAll 74 = .ok (.iconst 3, 1) := by decide +kernel
theorem dX9_handleAll_75 : decode cX9_handleAll 75 = .ok (.iadd, 1) := by decide +kernel
theorem dX9_handleAll_76 : decode cX9_handleAll 76 = .ok (.iaload, 1) := by decide +kernel
theorem dX9_handleAll_77 : decode cX9_handleAll 77 = .ok (.aload_n 0, 1) := by decide +kernel
theorem dX9_handleAll_78 : decode cX9_handleAll 78 = .ok (.getfield 18, 3) := by decide +kernel
theorem dX9_handleAll_81 : decode cX9_handleAll 81 = .ok (.iload_n 3, 1) := by decide +kernel
theorem dX9_handleAll_82 : decode cX9_handleAll 82 = .ok (.iconst 4, 1) := by decide +kernel
theorem dX9_handleAll_83 : decode cX9_handleAll 83 = .ok (.iadd, 1) := by decide +kernel
theorem dX9_handleAll_84 : decode cX9_handleAll 84 = .ok (.iaload, 1) := by decide +kernel
theorem dX9_handleAll_85 : decode cX9_handleAll 85 = .ok (.aload_n 0, 1) := by decide +kernel
theorem dX9_handleAll_86 : decode cX9_handleAll 86 = .ok (.getfield 18, 3) := by decide +kernel
theorem dX9_handleAll_89 : decode cX9_handleAll 89 = .ok (.iload_n 3, 1) := by decide +kernel
theorem dX9_handleAll_90 : decode cX9_handleAll 90 = .ok (.iconst 5, 1) := by decide +kernel
theorem dX9_handleAll_91 : decode cX9_handleAll 91 = .ok (.iadd, 1) := by decide +kernel
theorem dX9_handleAll_92 : decode cX9_handleAll 92 = .ok (.iaload, 1) := by decide +kernel
theorem dX9_handleAll_93 : decode cX9_handleAll 93 = .ok (.invokevirtual 240, 3) := by decide +kernel
theorem dX9_handleAll_96 : decode cX9_handleAll 96 = .ok (.iinc 2 1, 3) := by decide +kernel
theorem dX9_handleAll_99 : decode cX9_handleAll 99 = .ok (.goto (-90), 3) := by decide +kernel
theorem dX9_handleAll_102 : decode cX9_handleAll 102 = .ok (.iconst 0, 1) := by decide +kernel
theorem dX9_handleAll_103 : decode cX9_handleAll 103 = .ok (.istore_n 2, 1) := by decide +kernel
theorem dX9_handleAll_104 : decode cX9_handleAll 104 = .ok (.iconst 0, 1) := by decide +kernel
theorem dX9_handleAll_105 : decode cX9_handleAll 105 = .ok (.istore_n 3, 1) := by decide +kernel
theorem dX9_handleAll_106 : decode cX9_handleAll 106 = .ok (.iload_n 3, 1) := by decide +kernel
theorem dX9_handleAll_107 : decode cX9_handleAll 107 = .ok (.aload_n 0, 1) := by decide +kernel
theorem dX9_handleAll_108 : decode cX9_handleAll 108 = .ok (.getfield 18, 3) := by decide +kernel
theorem dX9_handleAll_111 : decode cX9_handleAll 111 = .ok (.iconst 3, 1) := by decide +kernel
theorem dX9_handleAll_112 : decode cX9_handleAll 112 = .ok (.iaload, 1) := by decide +kernel
theorem dX9_handleAll_113 : decode cX9_handleAll 113 = .ok (.if_icmp .ge 87, 3) := by decide +kernel
theorem dX9_handleAll_116 : decode cX9_handleAll 116 = .ok (.aload_n 0, 1) := by decide +kernel
theorem dX9_handleAll_117 : decode cX9_handleAll 117 = .ok (.getfield 18, 3) := by decide +kernel
theorem dX9_handleAll_120 : decode cX9_handleAll 120 = .ok (.sipush 1383, 3) := by decide +kernel
theorem dX9_handleAll_123 : decode cX9_handleAll 123 = .ok (.bipush 6, 2) := by decide +kernel
theorem dX9_handleAll_125 : decode cX9_handleAll 125 = .ok (.iload_n 3, 1) := by decide +kernel
theorem dX9_handleAll_126 : decode cX9_handleAll 126 = .ok (.imul, 1) := by decide +kernel
theorem dX9_handleAll_127 : decode cX9_handleAll 127 = .ok (.iadd, 1) := by decide +kernel
theorem dX9_handleAll_128 : decode cX9_handleAll 128 = .ok (.iconst 1, 1) := by decide +kernel
theorem dX9_handleAll_129 : decode cX9_handleAll 129 = .ok (.iadd, 1) := by decide +kernel
theorem dX9_handleAll_130 : decode cX9_handleAll 130 = .ok (.iaload, 1) := by decide +kernel
theorem dX9_handleAll_131 : decode cX9_handleAll 131 = .ok (.aload_n 0, 1) := by decide +kernel
theorem dX9_handleAll_132 : decode cX9_handleAll 132 = .ok (.getfield 18, 3) := by decide +kernel
theorem dX9_handleAll_135 : decode cX9_handleAll 135 = .ok (.iconst 1, 1) := by decide +kernel
theorem dX9_handleAll_136 : decode cX9_handleAll 136 = .ok (.iaload, 1) := by decide +kernel
theorem dX9_handleAll_137 : decode cX9_handleAll 137 = .ok (.if_icmp .ne 6, 3) := by decide +kernel
theorem dX9_handleAll_140 : decode cX9_handleAll 140 = .ok (.goto 54, 3) := by decide +kernel
theorem dX9_handleAll_143 : decode cX9_handleAll 143 = .ok (.iconst 0, 1) := by decide +kernel
theorem dX9_handleAll_144 : decode cX9_handleAll 144 = .ok (.istore 4, 2) := by decide +kernel
theorem dX9_handleAll_146 : decode cX9_handleAll 146 = .ok (.iload 4, 2) := by decide +kernel
theorem dX9_handleAll_148 : decode cX9_handleAll 148 = .ok (.bipush 6, 2) := by decide +kernel
theorem dX9_handleAll_150 : decode cX9_handleAll 150 = .ok (.if_icmp .ge 41, 3) := by decide +kernel
theorem dX9_handleAll_153 : decode cX9_handleAll 153 = .ok (.aload_n 0, 1) := by decide +kernel
theorem dX9_handleAll_154 : decode cX9_handleAll 154 = .ok (.getfield 18, 3) := by decide +kernel
theorem dX9_handleAll_157 : decode cX9_handleAll 157 = .ok (.sipush 1383, 3) := by decide +kernel
theorem dX9_handleAll_160 : decode cX9_handleAll 160 = .ok (.bipush 6, 2) := by decide +kernel
theorem dX9_handleAll_162 : decode cX9_handleAll 162 = .ok (.iload_n 2, 1) := by decide +kernel
theorem dX9_handleAll_163 : decode cX9_handleAll 163 = .ok (.imul, 1) := by decide +kernel
theorem dX9_handleAll_164 : decode cX9_handleAll 164 = .ok (.iadd, 1) := by decide +kernel
theorem dX9_handleAll_165 : decode cX9_handleAll 165 = .ok (.iload 4, 2) := by decide +kernel
theorem dX9_handleAll_167 : decode cX9_handleAll 167 = .ok (.iadd, 1) := by decide +kernel
theorem dX9_handleAll_168 : decode cX9_handleAll 168 = .ok (.aload_n 0, 1) := by decide +kernel
theorem dX9_handleAll_169 : decode cX9_handleAll 169 = .ok (.getfield 18, 3) := by decide +kernel
theorem dX9_handleAll_172 : decode cX9_handleAll 172 = .ok (.sipush 1383, 3) := by decide +kernel
theorem dX9_handleAll_175 : decode cX9_handleAll 175 = .ok (.bipush 6, 2) := by decide +kernel
theorem dX9_handleAll_177 : decode cX9_handleAll 177 = .ok (.iload_n 3, 1) := by decide +kernel
theorem dX9_handleAll_178 : decode cX9_handleAll 178 = .ok (.imul, 1) := by decide +kernel
theorem dX9_handleAll_179 : decode cX9_handleAll 179 = .ok (.iadd, 1) := by decide +kernel
theorem dX9_handleAll_180 : decode cX9_handleAll 180 = .ok (.iload 4, 2) := by decide +kernel
theorem dX9_handleAll_182 : decode cX9_handleAll 182 = .ok (.iadd, 1) := by decide +kernel
theorem dX9_handleAll_183 : decode cX9_handleAll 183 = .ok (.iaload, 1) := by decide +kernel
theorem dX9_handleAll_184 : decode cX9_handleAll 184 = .ok (.iastore, 1) := by decide +kernel
theorem dX9_handleAll_185 : decode cX9_handleAll 185 = .ok (.iinc 4 1, 3) := by decide +kernel
theorem dX9_handleAll_188 : decode cX9_handleAll 188 = .ok (.goto (-42), 3) := by decide +kernel
theorem dX9_handleAll_191 : decode cX9_handleAll 191 = .ok (.iinc 2 1, 3) := by decide +kernel
theorem dX9_handleAll_194 : decode cX9_handleAll 194 = .ok (.iinc 3 1, 3) := by decide +kernel
theorem dX9_handleAll_197 : decode cX9_handleAll 197 = .ok (.goto (-91), 3) := by decide +kernel
theorem dX9_handleAll_200 : decode cX9_handleAll 200 = .ok (.aload_n 0, 1) := by decide +kernel
theorem dX9_handleAll_201 : decode cX9_handleAll 201 = .ok (.getfield 18, 3) := by decide +kernel
theorem dX9_handleAll_204 : decode cX9_handleAll 204 = .ok (.iconst 3, 1) := by decide +kernel
theorem dX9_handleAll_205 : decode cX9_handleAll 205 = .ok (.iload_n 2, 1) := by decide +kernel
theorem dX9_handleAll_206 : decode cX9_handleAll 206 = .ok (.iastore, 1) := by decide +kernel
theorem dX9_handleAll_207 : decode cX9_handleAll 207 = .ok (.return_, 1) := by decide +kernel
theorem dX9_giveUp_0 : decode cX9_giveUp 0 = .ok (.aload_n 0, 1) := by decide +kernel
theorem dX9_giveUp_1 : decode cX9_giveUp 1 = .ok (.getfield 18, 3) := by decide +kernel
theorem dX9_giveUp_4 : decode cX9_giveUp 4 = .ok (.bipush 18, 2) := by decide +kernel
theorem dX9_giveUp_6 : decode cX9_giveUp 6 = .ok (.iaload, 1) := by decide +kernel
theorem dX9_giveUp_7 : decode cX9_giveUp 7 = .ok (.istore_n 1, 1) := by decide +kernel
theorem dX9_giveUp_8 : decode cX9_giveUp 8 = .ok (.aload_n 0, 1) := by decide +kernel
theorem dX9_giveUp_9 : decode cX9_giveUp 9 = .ok (.getfield 18, 3) := by decide +kernel
theorem dX9_giveUp_12 : decode cX9_giveUp 12 = .ok (.bipush 6, 2) := by decide +kernel
theorem dX9_giveUp_14 : decode cX9_giveUp 14 = .ok (.iaload, 1) := by decide +kernel
theorem dX9_giveUp_15 : decode cX9_giveUp 15 = .ok (.iconst 1, 1) := by decide +kernel
theorem dX9_giveUp_16 : decode cX9_giveUp 16 = .ok (.isub, 1) := by decide +kernel
theorem dX9_giveUp_17 : decode cX9_giveUp 17 = .ok (.istore_n 2, 1) := by decide +kernel
theorem dX9_giveUp_18 : decode cX9_giveUp 18 = .ok (.aload_n 0, 1) := by decide +kernel
theorem dX9_giveUp_19 : decode cX9_giveUp 19 = .ok (.getfield 18, 3) := by decide +kernel
theorem dX9_giveUp_22 : decode cX9_giveUp 22 = .ok (.bipush 20, 2) := by decide +kernel
theorem dX9_giveUp_24 : decode cX9_giveUp 24 = .ok (.iconst 2, 1) := by decide +kernel
theorem dX9_giveUp_25 : decode cX9_giveUp 25 = .ok (.iastore, 1) := by decide +kernel
theorem dX9_giveUp_26 : decode cX9_giveUp 26 = .ok (.aload_n 0, 1) := by decide +kernel
theorem dX9_giveUp_27 : decode cX9_giveUp 27 = .ok (.getfield 18, 3) := by decide +kernel
theorem dX9_giveUp_30 : decode cX9_giveUp 30 = .ok (.bipush 8, 2) := by decide +kernel
theorem dX9_giveUp_32 : decode cX9_giveUp 32 = .ok (.dup2, 1) := by decide +kernel
theorem dX9_giveUp_33 : decode cX9_giveUp 33 = .ok (.iaload, 1) := by decide +kernel
theorem dX9_giveUp_34 : decode cX9_giveUp 34 = .ok (.iconst 1, 1) := by decide +kernel
theorem dX9_giveUp_35 : decode cX9_giveUp 35 = .ok (.iadd, 1) := by decide +kernel
theorem dX9_giveUp_36 : decode cX9_giveUp 36 = .ok (.iastore, 1) := by decide +kernel
theorem dX9_giveUp_37 : decode cX9_giveUp 37 = .ok (.aload_n 0, 1) := by decide +kernel
theorem dX9_giveUp_38 : decode cX9_giveUp 38 = .ok (.iload_n 1, 1) := by decide +kernel
theorem dX9_giveUp_39 : decode cX9_giveUp 39 = .ok (.invokevirtual 228, 3) := by decide +kernel
theorem dX9_giveUp_42 : decode cX9_giveUp 42 = .ok (.ifCond .ne 4, 3) := by decide +kernel
theorem dX9_giveUp_45 : decode cX9_giveUp 45 = .ok (.return_, 1) := by decide +kernel
theorem dX9_giveUp_46 : decode cX9_giveUp 46 = .ok (.aload_n 0, 1) := by decide +kernel
theorem dX9_giveUp_47 : decode cX9_giveUp 47 = .ok (.iload_n 1, 1) := by decide +kernel
theorem dX9_giveUp_48 : decode cX9_giveUp 48 = .ok (.bipush 6, 2) := by decide +kernel
theorem dX9_giveUp_50 : decode cX9_giveUp 50 = .ok (.invokevirtual 181, 3) := by decide +kernel
theorem dX9_giveUp_53 : decode cX9_giveUp 53 = .ok (.iload_n 2, 1) := by decide +kernel
theorem dX9_giveUp_54 : decode cX9_giveUp 54 = .ok (.if_icmp .ne 8, 3) := by decide +kernel
theorem dX9_giveUp_57 : decode cX9_giveUp 57 = .ok (.aload_n 0, 1) := by decide +kernel
theorem dX9_giveUp_58 : decode cX9_giveUp 58 = .ok (.iload_n 1, 1) := by decide +kernel
theorem dX9_giveUp_59 : decode cX9_giveUp 59 = .ok (.invokevirtual 237, 3) := by decide +kernel
theorem dX9_giveUp_62 : decode cX9_giveUp 62 = .ok (.aload_n 0, 1) := by decide +kernel
theorem dX9_giveUp_63 : decode cX9_giveUp 63 = .ok (.iconst 5, 1) := by decide +kernel
theorem dX9_giveUp_64 : decode cX9_giveUp 64 = .ok (.iload_n 1, 1) := by decide +kernel
theorem dX9_giveUp_65 : decode cX9_giveUp 65 = .ok (.iload_n 2, 1) := by decide +kernel
theorem dX9_giveUp_66 : decode cX9_giveUp 66 = .ok (.iconst 0, 1) := by decide +kernel
theorem dX9_giveUp_67 : decode cX9_giveUp 67 = .ok (.iconst 0, 1) := by decide +kernel
theorem dX9_giveUp_68 : decode cX9_giveUp 68 = .ok (.invokevirtual 225, 3) := by decide +kernel
theorem dX9_giveUp_71 : decode cX9_giveUp 71 = .ok (.return_, 1) := by decide +kernel
theorem dX9_change_0 : decode cX9_change 0 = .ok (.aload_n 0, 1) := by decide +kernel
theorem dX9_change_1 : decode cX9_change 1 = .ok (.iload_n 1, 1) := by decide +kernel
theorem dX9_change_2 : decode cX9_change 2 = .ok (.invokevirtual 244, 3) := by decide +kernel
theorem dX9_change_5 : decode cX9_change 5 = .ok (.aload_n 0, 1) := by decide +kernel
theorem dX9_change_6 : decode cX9_change 6 = .ok (.iload_n 1, 1) := by decide +kernel
theorem dX9_change_7 : decode cX9_change 7 = .ok (.bipush 8, 2) := by decide +kernel
theorem dX9_change_9 : decode cX9_change 9 = .ok (.invokevirtual 181, 3) := by decide +kernel
theorem dX9_change_12 : decode cX9_change 12 = .ok (.if_icmp .le 7, 3) := by decide +kernel
theorem dX9_change_15 : decode cX9_change 15 = .ok (.iconst 1, 1) := by decide +kernel
theorem dX9_change_16 : decode cX9_change 16 = .ok (.goto 4, 3) := by decide +kernel
theorem dX9_change_19 : decode cX9_change 19 = .ok (.iconst 0, 1) := by decide +kernel
theorem dX9_change_20 : decode cX9_change 20 = .ok (.istore_n 2, 1) := by decide +kernel
theorem dX9_change_21 : decode cX9_change 21 = .ok (.aload_n 0, 1) := by decide +kernel
theorem dX9_change_22 : decode cX9_change 22 = .ok (.iload_n 1, 1) := by decide +kernel
theorem dX9_change_23 : decode cX9_change 23 = .ok (.bipush 6, 2) := by decide +kernel
theorem dX9_change_25 : decode cX9_change 25 = .ok (.invokevirtual 181, 3) := by decide +kernel
theorem dX9_change_28 : decode cX9_change 28 = .ok (.aload_n 0, 1) := by decide +kernel
theorem dX9_change_29 : decode cX9_change 29 = .ok (.getfield 18, 3) := by decide +kernel
theorem dX9_change_32 : decode cX9_change 32 = .ok (.bipush 6, 2) := by decide +kernel
theorem dX9_change_34 : decode cX9_change 34 = .ok (.iaload, 1) := by decide +kernel
theorem dX9_change_35 : decode cX9_change 35 = .ok (.iconst 1, 1) := by decide +kernel
theorem dX9_change_36 : decode cX9_change 36 = .ok (.isub, 1) := by decide +kernel
theorem dX9_change_37 : decode cX9_change 37 = .ok (.if_icmp .ne 50, 3) := by decide +kernel
theorem dX9_change_40 : decode cX9_change 40 = .ok (.aload_n 0, 1) := by decide +kernel
theorem dX9_change_41 : decode cX9_change 41 = .ok (.getfield 18, 3) := by decide +kernel
theorem dX9_change_44 : decode cX9_change 44 = .ok (.bipush 21, 2) := by decide +kernel
theorem dX9_change_46 : decode cX9_change 46 = .ok (.aload_n 0, 1) := by decide +kernel
theorem dX9_change_47 : decode cX9_change 47 = .ok (.getfield 18, 3) := by decide +kernel
theorem dX9_change_50 : decode cX9_change 50 = .ok (.bipush 21, 2) := by decide +kernel
theorem dX9_change_52 : decode cX9_change 52 = .ok (.iaload, 1) := by decide +kernel
theorem dX9_change_53 : decode cX9_change 53 = .ok (.iconst (-1), 1) := by decide +kernel
theorem dX9_change_54 : decode cX9_change 54 = .ok (.if_icmp .ne 12, 3) := by decide +kernel
theorem dX9_change_57 : decode cX9_change 57 = .ok (.aload_n 0, 1) := by decide +kernel
theorem dX9_change_58 : decode cX9_change 58 = .ok (.getfield 18, 3) := by decide +kernel
theorem dX9_change_61 : decode cX9_change 61 = .ok (.iconst 1, 1) := by decide +kernel
theorem dX9_change_62 : decode cX9_change 62 = .ok (.iaload, 1) := by decide +kernel
theorem dX9_change_63 : decode cX9_change 63 = .ok (.goto 10, 3) := by decide +kernel
theorem dX9_change_66 : decode cX9_change 66 = .ok (.aload_n 0, 1) := by decide +kernel
theorem dX9_change_67 : decode cX9_change 67 = .ok (.getfield 18, 3) := by decide +kernel
theorem dX9_change_70 : decode cX9_change 70 = .ok (.bipush 21, 2) := by decide +kernel
theorem dX9_change_72 : decode cX9_change 72 = .ok (.iaload, 1) := by decide +kernel
theorem dX9_change_73 : decode cX9_change 73 = .ok (.iastore, 1) := by decide +kernel
theorem dX9_change_74 : decode cX9_change 74 = .ok (.aload_n 0, 1) := by decide +kernel
theorem dX9_change_75 : decode cX9_change 75 = .ok (.getfield 18, 3) := by decide +kernel
theorem dX9_change_78 : decode cX9_change 78 = .ok (.bipush 22, 2) := by decide +kernel
theorem dX9_change_80 : decode cX9_change 80 = .ok (.aload_n 0, 1) := by decide +kernel
theorem dX9_change_81 : decode cX9_change 81 = .ok (.getfield 18, 3) := by decide +kernel
theorem dX9_change_84 : decode cX9_change 84 = .ok (.iconst 1, 1) := by decide +kernel
theorem dX9_change_85 : decode cX9_change 85 = .ok (.iaload, 1) := by decide +kernel
theorem dX9_change_86 : decode cX9_change 86 = .ok (.iastore, 1) := by decide +kernel
theorem dX9_change_87 : decode cX9_change 87 = .ok (.aload_n 0, 1) := by decide +kernel
theorem dX9_change_88 : decode cX9_change 88 = .ok (.iload_n 1, 1) := by decide +kernel
theorem dX9_change_89 : decode cX9_change 89 = .ok (.iconst 4, 1) := by decide +kernel
theorem dX9_change_90 : decode cX9_change 90 = .ok (.aload_n 0, 1) := by decide +kernel
theorem dX9_change_91 : decode cX9_change 91 = .ok (.iload_n 1, 1) := by decide +kernel
theorem dX9_change_92 : decode cX9_change 92 = .ok (.bipush 7, 2) := by decide +kernel
theorem dX9_change_94 : decode cX9_change 94 = .ok (.invokevirtual 181, 3) := by decide +kernel
theorem dX9_change_97 : decode cX9_change 97 = .ok (.invokevirtual 217, 3) := by decide +kernel
theorem dX9_change_100 : decode cX9_change 100 = .ok (.aload_n 0, 1) := by decide +kernel
theorem dX9_change_101 : decode cX9_change 101 = .ok (.iload_n 1, 1) := by decide +kernel
theorem dX9_change_102 : decode cX9_change 102 = .ok (.bipush 9, 2) := by decide +kernel
theorem dX9_change_104 : decode cX9_change 104 = .ok (.aload_n 0, 1) := by decide +kernel
theorem dX9_change_105 : decode cX9_change 105 = .ok (.iload_n 1, 1) := by decide +kernel
theorem dX9_change_106 : decode cX9_change 106 = .ok (.bipush 9, 2) := by decide +kernel
theorem dX9_change_108 : decode cX9_change 108 = .ok (.invokevirtual 181, 3) := by decide +kernel
theorem dX9_change_111 : decode cX9_change 111 = .ok (.iconst 1, 1) := by decide +kernel
theorem dX9_change_112 : decode cX9_change 112 = .ok (.iadd, 1) := by decide +kernel
theorem dX9_change_113 : decode cX9_change 113 = .ok (.invokevirtual 217, 3) := by decide +kernel
theorem dX9_change_116 : decode cX9_change 116 = .ok (.aload_n 0, 1) := by decide +kernel
theorem dX9_change_117 : decode cX9_change 117 = .ok (.iload_n 1, 1) := by decide +kernel
theorem dX9_change_118 : decode cX9_change 118 = .ok (.bipush 10, 2) := by decide +kernel
theorem dX9_change_120 : decode cX9_change 120 = .ok (.aload_n 0, 1) := by decide +kernel
theorem dX9_change_121 : decode cX9_change 121 = .ok (.iload_n 1, 1) := by decide +kernel
theorem dX9_change_122 : decode cX9_change 122 = .ok (.bipush 10, 2) := by decide +kernel
theorem dX9_change_124 : decode cX9_change 124 = .ok (.invokevirtual 181, 3) := by decide +kernel
theorem dX9_change_127 : decode cX9_change 127 = .ok (.iload_n 2, 1) := by decide +kernel
theorem dX9_change_128 : decode cX9_change 128 = .ok (.iadd, 1) := by decide +kernel
theorem dX9_change_129 : decode cX9_change 129 = .ok (.invokevirtual 217, 3) := by decide +kernel
theorem dX9_change_132 : decode cX9_change 132 = .ok (.aload_n 0, 1) := by decide +kernel
theorem dX9_change_133 : decode cX9_change 133 = .ok (.iload_n 1, 1) := by decide +kernel
theorem dX9_change_134 : decode cX9_change 134 = .ok (.bipush 11, 2) := by decide +kernel
theorem dX9_change_136 : decode cX9_change 136 = .ok (.aload_n 0, 1) := by decide +kernel
theorem dX9_change_137 : decode cX9_change 137 = .ok (.getfield 18, 3) := by decide +kernel
theorem dX9_change_140 : decode cX9_change 140 = .ok (.iconst 1, 1) := by decide +kernel
theorem dX9_change_141 : decode cX9_change 141 = .ok (.iaload, 1) := by decide +kernel
theorem dX9_change_142 : decode cX9_change 142 = .ok (.invokevirtual 217, 3) := by decide +kernel
theorem dX9_change_145 : decode cX9_change 145 = .ok (.aload_n 0, 1) := by decide +kernel
theorem dX9_change_146 : decode cX9_change 146 = .ok (.iload_n 1, 1) := by decide +kernel
theorem dX9_change_147 : decode cX9_change 147 = .ok (.invokevirtual 237, 3) := by decide +kernel
theorem dX9_change_150 : decode cX9_change 150 = .ok (.aload_n 0, 1) := by decide +kernel
theorem dX9_change_151 : decode cX9_change 151 = .ok (.getfield 18, 3) := by decide +kernel
theorem dX9_change_154 : decode cX9_change 154 = .ok (.bipush 9, 2) := by decide +kernel
theorem dX9_change_156 : decode cX9_change 156 = .ok (.dup2, 1) := by decide +kernel
theorem dX9_change_157 : decode cX9_change 157 = .ok (.iaload, 1) := by decide +kernel
theorem dX9_change_158 : decode cX9_change 158 = .ok (.iconst 1, 1) := by decide +kernel
theorem dX9_change_159 : decode cX9_change 159 = .ok (.iadd, 1) := by decide +kernel
theorem dX9_change_160 : decode cX9_change 160 = .ok (.iastore, 1) := by decide +kernel
theorem dX9_change_161 : decode cX9_change 161 = .ok (.aload_n 0, 1) := by decide +kernel
theorem dX9_change_162 : decode cX9_change 162 = .ok (.getfield 18, 3) := by decide +kernel
