theorem dX9_change_165 : decode cX9_change 165 = .ok (.bipush 10, 2) := by decide +kernel
theorem dX9_change_167 : decode cX9_change 167 = .ok (.dup2, 1) := by decide +kernel
theorem dX9_change_168 : decode cX9_change 168 = .ok (.iaload, 1) := by decide +kernel
theorem dX9_change_169 : decode cX9_change 169 = .ok (.iload_n 2, 1) := by decide +kernel
theorem dX9_change_170 : decode cX9_change 170 = .ok (.iadd, 1) := by decide +kernel
theorem dX9_change_171 : decode cX9_change 171 = .ok (.iastore, 1) := by decide +kernel
theorem dX9_change_172 : decode cX9_change 172 = .ok (.return_, 1) := by decide +kernel
theorem dX9_tick_0 : decode cX9_tick 0 = .ok (.aload_n 0, 1) := by decide +kernel
theorem dX9_tick_1 : decode cX9_tick 1 = .ok (.getfield 18, 3) := by decide +kernel
theorem dX9_tick_4 : decode cX9_tick 4 = .ok (.iconst 1, 1) := by decide +kernel
theorem dX9_tick_5 : decode cX9_tick 5 = .ok (.dup2, 1) := by decide +kernel
theorem dX9_tick_6 : decode cX9_tick 6 = .ok (.iaload, 1) := by decide +kernel
theorem dX9_tick_7 : decode cX9_tick 7 = .ok (.iconst 1, 1) := by decide +kernel
theorem dX9_tick_8 : decode cX9_tick 8 = .ok (.iadd, 1) := by decide +kernel
theorem dX9_tick_9 : decode cX9_tick 9 = .ok (.iastore, 1) := by decide +kernel
theorem dX9_tick_10 : decode cX9_tick 10 = .ok (.aload_n 0, 1) := by decide +kernel
theorem dX9_tick_11 : decode cX9_tick 11 = .ok (.invokevirtual 247, 3) := by decide +kernel
theorem dX9_tick_14 : decode cX9_tick 14 = .ok (.aload_n 0, 1) := by decide +kernel
theorem dX9_tick_15 : decode cX9_tick 15 = .ok (.invokevirtual 231, 3) := by decide +kernel
theorem dX9_tick_18 : decode cX9_tick 18 = .ok (.ifCond .eq 23, 3) := by decide +kernel
theorem dX9_tick_21 : decode cX9_tick 21 = .ok (.aload_n 0, 1) := by decide +kernel
theorem dX9_tick_22 : decode cX9_tick 22 = .ok (.getfield 18, 3) := by decide +kernel
theorem dX9_tick_25 : decode cX9_tick 25 = .ok (.bipush 17, 2) := by decide +kernel
theorem dX9_tick_27 : decode cX9_tick 27 = .ok (.iaload, 1) := by decide +kernel
theorem dX9_tick_28 : decode cX9_tick 28 = .ok (.aload_n 0, 1) := by decide +kernel
theorem dX9_tick_29 : decode cX9_tick 29 = .ok (.getfield 18, 3) := by decide +kernel
theorem dX9_tick_32 : decode cX9_tick 32 = .ok (.iconst 1, 1) := by decide +kernel
theorem dX9_tick_33 : decode cX9_tick 33 = .ok (.iaload, 1) := by decide +kernel
theorem dX9_tick_34 : decode cX9_tick 34 = .ok (.if_icmp .ne 7, 3) := by decide +kernel
theorem dX9_tick_37 : decode cX9_tick 37 = .ok (.aload_n 0, 1) := by decide +kernel
theorem dX9_tick_38 : decode cX9_tick 38 = .ok (.invokevirtual 250, 3) := by decide +kernel
theorem dX9_tick_41 : decode cX9_tick 41 = .ok (.iconst 0, 1) := by decide +kernel
theorem dX9_tick_42 : decode cX9_tick 42 = .ok (.istore_n 1, 1) := by decide +kernel
theorem dX9_tick_43 : decode cX9_tick 43 = .ok (.iload_n 1, 1) := by decide +kernel
theorem dX9_tick_44 : decode cX9_tick 44 = .ok (.aload_n 0, 1) := by decide +kernel
theorem dX9_tick_45 : decode cX9_tick 45 = .ok (.getfield 18, 3) := by decide +kernel
theorem dX9_tick_48 : decode cX9_tick 48 = .ok (.iconst 0, 1) := by decide +kernel
theorem dX9_tick_49 : decode cX9_tick 49 = .ok (.iaload, 1) := by decide +kernel
theorem dX9_tick_50 : decode cX9_tick 50 = .ok (.if_icmp .ge 47, 3) := by decide +kernel
theorem dX9_tick_53 : decode cX9_tick 53 = .ok (.aload_n 0, 1) := by decide +kernel
theorem dX9_tick_54 : decode cX9_tick 54 = .ok (.iload_n 1, 1) := by decide +kernel
theorem dX9_tick_55 : decode cX9_tick 55 = .ok (.invokevirtual 228, 3) := by decide +kernel
theorem dX9_tick_58 : decode cX9_tick 58 = .ok (.ifCond .eq 33, 3) := by decide +kernel
theorem dX9_tick_61 : decode cX9_tick 61 = .ok (.aload_n 0, 1) := by decide +kernel
theorem dX9_tick_62 : decode cX9_tick 62 = .ok (.iload_n 1, 1) := by decide +kernel
theorem dX9_tick_63 : decode cX9_tick 63 = .ok (.iconst 5, 1) := by decide +kernel
theorem dX9_tick_64 : decode cX9_tick 64 = .ok (.invokevirtual 181, 3) := by decide +kernel
theorem dX9_tick_67 : decode cX9_tick 67 = .ok (.iconst 2, 1) := by decide +kernel
theorem dX9_tick_68 : decode cX9_tick 68 = .ok (.if_icmp .ne 23, 3) := by decide +kernel
theorem dX9_tick_71 : decode cX9_tick 71 = .ok (.aload_n 0, 1) := by decide +kernel
theorem dX9_tick_72 : decode cX9_tick 72 = .ok (.iload_n 1, 1) := by decide +kernel
theorem dX9_tick_73 : decode cX9_tick 73 = .ok (.invokevirtual 244, 3) := by decide +kernel
theorem dX9_tick_76 : decode cX9_tick 76 = .ok (.aload_n 0, 1) := by decide +kernel
theorem dX9_tick_77 : decode cX9_tick 77 = .ok (.iload_n 1, 1) := by decide +kernel
theorem dX9_tick_78 : decode cX9_tick 78 = .ok (.bipush 8, 2) := by decide +kernel
theorem dX9_tick_80 : decode cX9_tick 80 = .ok (.invokevirtual 181, 3) := by decide +kernel
theorem dX9_tick_83 : decode cX9_tick 83 = .ok (.if_icmp .lt 8, 3) := by decide +kernel
theorem dX9_tick_86 : decode cX9_tick 86 = .ok (.aload_n 0, 1) := by decide +kernel
theorem dX9_tick_87 : decode cX9_tick 87 = .ok (.iload_n 1, 1) := by decide +kernel
theorem dX9_tick_88 : decode cX9_tick 88 = .ok (.invokevirtual 253, 3) := by decide +kernel
theorem dX9_tick_91 : decode cX9_tick 91 = .ok (.iinc 1 1, 3) := by decide +kernel
theorem dX9_tick_94 : decode cX9_tick 94 = .ok (.goto (-51), 3) := by decide +kernel
theorem dX9_tick_97 : decode cX9_tick 97 = .ok (.return_, 1) := by decide +kernel
theorem dX9_proposeNow_0 : decode cX9_proposeNow 0 = .ok (.aload_n 0, 1) := by decide +kernel
theorem dX9_proposeNow_1 : decode cX9_proposeNow 1 = .ok (.getfield 18, 3) := by decide +kernel
theorem dX9_proposeNow_4 : decode cX9_proposeNow 4 = .ok (.iconst 2, 1) := by decide +kernel
theorem dX9_proposeNow_5 : decode cX9_proposeNow 5 = .ok (.iaload, 1) := by decide +kernel
theorem dX9_proposeNow_6 : decode cX9_proposeNow 6 = .ok (.istore_n 3, 1) := by decide +kernel
theorem dX9_proposeNow_7 : decode cX9_proposeNow 7 = .ok (.aload_n 0, 1) := by decide +kernel
theorem dX9_proposeNow_8 : decode cX9_proposeNow 8 = .ok (.getfield 18, 3) := by decide +kernel
theorem dX9_proposeNow_11 : decode cX9_proposeNow 11 = .ok (.bipush 6, 2) := by decide +kernel
theorem dX9_proposeNow_13 : decode cX9_proposeNow 13 = .ok (.iaload, 1) := by decide +kernel
theorem dX9_proposeNow_14 : decode cX9_proposeNow 14 = .ok (.istore 4, 2) := by decide +kernel
theorem dX9_proposeNow_16 : decode cX9_proposeNow 16 = .ok (.aload_n 0, 1) := by decide +kernel
theorem dX9_proposeNow_17 : decode cX9_proposeNow 17 = .ok (.getfield 18, 3) := by decide +kernel
theorem dX9_proposeNow_20 : decode cX9_proposeNow 20 = .ok (.bipush 6, 2) := by decide +kernel
theorem dX9_proposeNow_22 : decode cX9_proposeNow 22 = .ok (.dup2, 1) := by decide +kernel
theorem dX9_proposeNow_23 : decode cX9_proposeNow 23 = .ok (.iaload, 1) := by decide +kernel
theorem dX9_proposeNow_24 : decode cX9_proposeNow 24 = .ok (.iconst 1, 1) := by decide +kernel
theorem dX9_proposeNow_25 : decode cX9_proposeNow 25 = .ok (.iadd, 1) := by decide +kernel
theorem dX9_proposeNow_26 : decode cX9_proposeNow 26 = .ok (.iastore, 1) := by decide +kernel
theorem dX9_proposeNow_27 : decode cX9_proposeNow 27 = .ok (.aload_n 0, 1) := by decide +kernel
theorem dX9_proposeNow_28 : decode cX9_proposeNow 28 = .ok (.getfield 18, 3) := by decide +kernel
theorem dX9_proposeNow_31 : decode cX9_proposeNow 31 = .ok (.bipush 15, 2) := by decide +kernel
theorem dX9_proposeNow_33 : decode cX9_proposeNow 33 = .ok (.iload_n 1, 1) := by decide +kernel
theorem dX9_proposeNow_34 : decode cX9_proposeNow 34 = .ok (.iastore, 1) := by decide +kernel
theorem dX9_proposeNow_35 : decode cX9_proposeNow 35 = .ok (.aload_n 0, 1) := by decide +kernel
theorem dX9_proposeNow_36 : decode cX9_proposeNow 36 = .ok (.getfield 18, 3) := by decide +kernel
theorem dX9_proposeNow_39 : decode cX9_proposeNow 39 = .ok (.bipush 16, 2) := by decide +kernel
theorem dX9_proposeNow_41 : decode cX9_proposeNow 41 = .ok (.aload_n 0, 1) := by decide +kernel
theorem dX9_proposeNow_42 : decode cX9_proposeNow 42 = .ok (.iload_n 3, 1) := by decide +kernel
theorem dX9_proposeNow_43 : decode cX9_proposeNow 43 = .ok (.invokevirtual 184, 3) := by decide +kernel
theorem dX9_proposeNow_46 : decode cX9_proposeNow 46 = .ok (.iload_n 2, 1) := by decide +kernel
theorem dX9_proposeNow_47 : decode cX9_proposeNow 47 = .ok (.iadd, 1) := by decide +kernel
theorem dX9_proposeNow_48 : decode cX9_proposeNow 48 = .ok (.iastore, 1) := by decide +kernel
theorem dX9_proposeNow_49 : decode cX9_proposeNow 49 = .ok (.aload_n 0, 1) := by decide +kernel
theorem dX9_proposeNow_50 : decode cX9_proposeNow 50 = .ok (.getfield 18, 3) := by decide +kernel
theorem dX9_proposeNow_53 : decode cX9_proposeNow 53 = .ok (.bipush 17, 2) := by decide +kernel
theorem dX9_proposeNow_55 : decode cX9_proposeNow 55 = .ok (.aload_n 0, 1) := by decide +kernel
theorem dX9_proposeNow_56 : decode cX9_proposeNow 56 = .ok (.getfield 18, 3) := by decide +kernel
theorem dX9_proposeNow_59 : decode cX9_proposeNow 59 = .ok (.iconst 1, 1) := by decide +kernel
theorem dX9_proposeNow_60 : decode cX9_proposeNow 60 = .ok (.iaload, 1) := by decide +kernel
theorem dX9_proposeNow_61 : decode cX9_proposeNow 61 = .ok (.aload_n 0, 1) := by decide +kernel
theorem dX9_proposeNow_62 : decode cX9_proposeNow 62 = .ok (.getfield 18, 3) := by decide +kernel
theorem dX9_proposeNow_65 : decode cX9_proposeNow 65 = .ok (.bipush 12, 2) := by decide +kernel
theorem dX9_proposeNow_67 : decode cX9_proposeNow 67 = .ok (.iaload, 1) := by decide +kernel
theorem dX9_proposeNow_68 : decode cX9_proposeNow 68 = .ok (.iadd, 1) := by decide +kernel
theorem dX9_proposeNow_69 : decode cX9_proposeNow 69 = .ok (.iastore, 1) := by decide +kernel
theorem dX9_proposeNow_70 : decode cX9_proposeNow 70 = .ok (.aload_n 0, 1) := by decide +kernel
theorem dX9_proposeNow_71 : decode cX9_proposeNow 71 = .ok (.getfield 18, 3) := by decide +kernel
theorem dX9_proposeNow_74 : decode cX9_proposeNow 74 = .ok (.bipush 18, 2) := by decide +kernel
theorem dX9_proposeNow_76 : decode cX9_proposeNow 76 = .ok (.iload_n 3, 1) := by decide +kernel
theorem dX9_proposeNow_77 : decode cX9_proposeNow 77 = .ok (.iastore, 1) := by decide +kernel
theorem dX9_proposeNow_78 : decode cX9_proposeNow 78 = .ok (.aload_n 0, 1) := by decide +kernel
theorem dX9_proposeNow_79 : decode cX9_proposeNow 79 = .ok (.getfield 18, 3) := by decide +kernel
theorem dX9_proposeNow_82 : decode cX9_proposeNow 82 = .ok (.bipush 19, 2) := by decide +kernel
theorem dX9_proposeNow_84 : decode cX9_proposeNow 84 = .ok (.iconst 0, 1) := by decide +kernel
theorem dX9_proposeNow_85 : decode cX9_proposeNow 85 = .ok (.iastore, 1) := by decide +kernel
theorem dX9_proposeNow_86 : decode cX9_proposeNow 86 = .ok (.aload_n 0, 1) := by decide +kernel
theorem dX9_proposeNow_87 : decode cX9_proposeNow 87 = .ok (.getfield 18, 3) := by decide +kernel
theorem dX9_proposeNow_90 : decode cX9_proposeNow 90 = .ok (.bipush 20, 2) := by decide +kernel
theorem dX9_proposeNow_92 : decode cX9_proposeNow 92 = .ok (.iconst 0, 1) := by decide +kernel
theorem dX9_proposeNow_93 : decode cX9_proposeNow 93 = .ok (.iastore, 1) := by decide +kernel
theorem dX9_proposeNow_94 : decode cX9_proposeNow 94 = .ok (.aload_n 0, 1) := by decide +kernel
theorem dX9_proposeNow_95 : decode cX9_proposeNow 95 = .ok (.getfield 18, 3) := by decide +kernel
theorem dX9_proposeNow_98 : decode cX9_proposeNow 98 = .ok (.bipush 21, 2) := by decide +kernel
theorem dX9_proposeNow_100 : decode cX9_proposeNow 100 = .ok (.iconst (-1), 1) := by decide +kernel
theorem dX9_proposeNow_101 : decode cX9_proposeNow 101 = .ok (.iastore, 1) := by decide +kernel
theorem dX9_proposeNow_102 : decode cX9_proposeNow 102 = .ok (.aload_n 0, 1) := by decide +kernel
theorem dX9_proposeNow_103 : decode cX9_proposeNow 103 = .ok (.getfield 18, 3) := by decide +kernel
theorem dX9_proposeNow_106 : decode cX9_proposeNow 106 = .ok (.bipush 22, 2) := by decide +kernel
theorem dX9_proposeNow_108 : decode cX9_proposeNow 108 = .ok (.iconst (-1), 1) := by decide +kernel
theorem dX9_proposeNow_109 : decode cX9_proposeNow 109 = .ok (.iastore, 1) := by decide +kernel
theorem dX9_proposeNow_110 : decode cX9_proposeNow 110 = .ok (.aload_n 0, 1) := by decide +kernel
theorem dX9_proposeNow_111 : decode cX9_proposeNow 111 = .ok (.iload_n 3, 1) := by decide +kernel
theorem dX9_proposeNow_112 : decode cX9_proposeNow 112 = .ok (.iconst 1, 1) := by decide +kernel
theorem dX9_proposeNow_113 : decode cX9_proposeNow 113 = .ok (.iload 4, 2) := by decide +kernel
theorem dX9_proposeNow_115 : decode cX9_proposeNow 115 = .ok (.aload_n 0, 1) := by decide +kernel
theorem dX9_proposeNow_116 : decode cX9_proposeNow 116 = .ok (.getfield 18, 3) := by decide +kernel
theorem dX9_proposeNow_119 : decode cX9_proposeNow 119 = .ok (.bipush 16, 2) := by decide +kernel
theorem dX9_proposeNow_121 : decode cX9_proposeNow 121 = .ok (.iaload, 1) := by decide +kernel
theorem dX9_proposeNow_122 : decode cX9_proposeNow 122 = .ok (.iload_n 1, 1) := by decide +kernel
theorem dX9_proposeNow_123 : decode cX9_proposeNow 123 = .ok (.invokevirtual 221, 3) := by decide +kernel
theorem dX9_proposeNow_126 : decode cX9_proposeNow 126 = .ok (.aload_n 0, 1) := by decide +kernel
theorem dX9_proposeNow_127 : decode cX9_proposeNow 127 = .ok (.iconst 2, 1) := by decide +kernel
theorem dX9_proposeNow_128 : decode cX9_proposeNow 128 = .ok (.iload_n 3, 1) := by decide +kernel
theorem dX9_proposeNow_129 : decode cX9_proposeNow 129 = .ok (.iload 4, 2) := by decide +kernel
theorem dX9_proposeNow_131 : decode cX9_proposeNow 131 = .ok (.aload_n 0, 1) := by decide +kernel
theorem dX9_proposeNow_132 : decode cX9_proposeNow 132 = .ok (.getfield 18, 3) := by decide +kernel
theorem dX9_proposeNow_135 : decode cX9_proposeNow 135 = .ok (.bipush 16, 2) := by decide +kernel
theorem dX9_proposeNow_137 : decode cX9_proposeNow 137 = .ok (.iaload, 1) := by decide +kernel
theorem dX9_proposeNow_138 : decode cX9_proposeNow 138 = .ok (.iload_n 1, 1) := by decide +kernel
theorem dX9_proposeNow_139 : decode cX9_proposeNow 139 = .ok (.invokevirtual 225, 3) := by decide +kernel
theorem dX9_proposeNow_142 : decode cX9_proposeNow 142 = .ok (.aload_n 0, 1) := by decide +kernel
theorem dX9_proposeNow_143 : decode cX9_proposeNow 143 = .ok (.invokevirtual 234, 3) := by decide +kernel
theorem dX9_proposeNow_146 : decode cX9_proposeNow 146 = .ok (.aload_n 0, 1) := by decide +kernel
theorem dX9_proposeNow_147 : decode cX9_proposeNow 147 = .ok (.getfield 18, 3) := by decide +kernel
theorem dX9_proposeNow_150 : decode cX9_proposeNow 150 = .ok (.bipush 16, 2) := by decide +kernel
theorem dX9_proposeNow_152 : decode cX9_proposeNow 152 = .ok (.iaload, 1) := by decide +kernel
theorem dX9_proposeNow_153 : decode cX9_proposeNow 153 = .ok (.ireturn, 1) := by decide +kernel
theorem dX9_isLive_0 : decode cX9_isLive 0 = .ok (.aload_n 0, 1) := by decide +kernel
theorem dX9_isLive_1 : decode cX9_isLive 1 = .ok (.getfield 18, 3) := by decide +kernel
theorem dX9_isLive_4 : decode cX9_isLive 4 = .ok (.iconst 3, 1) := by decide +kernel
theorem dX9_isLive_5 : decode cX9_isLive 5 = .ok (.iaload, 1) := by decide +kernel
theorem dX9_isLive_6 : decode cX9_isLive 6 = .ok (.ifCond .gt 10, 3) := by decide +kernel
theorem dX9_isLive_9 : decode cX9_isLive 9 = .ok (.aload_n 0, 1) := by decide +kernel
theorem dX9_isLive_10 : decode cX9_isLive 10 = .ok (.invokevirtual 231, 3) := by decide +kernel
theorem dX9_isLive_13 : decode cX9_isLive 13 = .ok (.ifCond .eq 7, 3) := by decide +kernel
theorem dX9_isLive_16 : decode cX9_isLive 16 = .ok (.iconst 1, 1) := by decide +kernel
theorem dX9_isLive_17 : decode cX9_isLive 17 = .ok (.goto 4, 3) := by decide +kernel
theorem dX9_isLive_20 : decode cX9_isLive 20 = .ok (.iconst 0, 1) := by decide +kernel
theorem dX9_isLive_21 : decode cX9_isLive 21 = .ok (.istore_n 1, 1) := by decide +kernel
theorem dX9_isLive_22 : decode cX9_isLive 22 = .ok (.iconst 0, 1) := by decide +kernel
theorem dX9_isLive_23 : decode cX9_isLive 23 = .ok (.istore_n 2, 1) := by decide +kernel
theorem dX9_isLive_24 : decode cX9_isLive 24 = .ok (.iload_n 2, 1) := by decide +kernel
theorem dX9_isLive_25 : decode cX9_isLive 25 = .ok (.aload_n 0, 1) := by decide +kernel
theorem dX9_isLive_26 : decode cX9_isLive 26 = .ok (.getfield 18, 3) := by decide +kernel
theorem dX9_isLive_29 : decode cX9_isLive 29 = .ok (.iconst 0, 1) := by decide +kernel
theorem dX9_isLive_30 : decode cX9_isLive 30 = .ok (.iaload, 1) := by decide +kernel
theorem dX9_isLive_31 : decode cX9_isLive 31 = .ok (.if_icmp .ge 35, 3) := by decide +kernel
theorem dX9_isLive_34 : decode cX9_isLive 34 = .ok (.iload_n 1, 1) := by decide +kernel
theorem dX9_isLive_35 : decode cX9_isLive 35 = .ok (.aload_n 0, 1) := by decide +kernel
theorem dX9_isLive_36 : decode cX9_isLive 36 = .ok (.iload_n 2, 1) := by decide +kernel
theorem dX9_isLive_37 : decode cX9_isLive 37 = .ok (.invokevirtual 228, 3) := by decide +kernel
theorem dX9_isLive_40 : decode cX9_isLive 40 = .ok (.ifCond .eq 17, 3) := by decide +kernel
theorem dX9_isLive_43 : decode cX9_isLive 43 = .ok (.aload_n 0, 1) := by decide +kernel
theorem dX9_isLive_44 : decode cX9_isLive 44 = .ok (.iload_n 2, 1) := by decide +kernel
theorem dX9_isLive_45 : decode cX9_isLive 45 = .ok (.iconst 5, 1) := by decide +kernel
theorem dX9_isLive_46 : decode cX9_isLive 46 = .ok (.invokevirtual 181, 3) := by decide +kernel
theorem dX9_isLive_49 : decode cX9_isLive 49 = .ok (.iconst 2, 1) := by decide +kernel
theorem dX9_isLive_50 : decode cX9_isLive 50 = .ok (.if_icmp .ne 7, 3) := by decide +kernel
theorem dX9_isLive_53 : decode cX9_isLive 53 = .ok (.iconst 1, 1) := by decide +kernel
theorem dX9_isLive_54 : decode cX9_isLive 54 = .ok (.goto 4, 3) := by decide +kernel
theorem dX9_isLive_57 : decode cX9_isLive 57 = .ok (.iconst 0, 1) := by decide +kernel
theorem dX9_isLive_58 : decode cX9_isLive 58 = .ok (.ior, 1) := by decide +kernel
theorem dX9_isLive_59 : decode cX9_isLive 59 = .ok (.istore_n 1, 1) := by decide +kernel
theorem dX9_isLive_60 : decode cX9_isLive 60 = .ok (.iinc 2 1, 3) := by decide +kernel
theorem dX9_isLive_63 : decode cX9_isLive 63 = .ok (.goto (-39), 3) := by decide +kernel
theorem dX9_isLive_66 : decode cX9_isLive 66 = .ok (.iload_n 1, 1) := by decide +kernel
theorem dX9_isLive_67 : decode cX9_isLive 67 = .ok (.ireturn, 1) := by decide +kernel
theorem dX9_goOn_0 : decode cX9_goOn 0 = .ok (.iconst 0, 1) := by decide +kernel
theorem dX9_goOn_1 : decode cX9_goOn 1 = .ok (.istore_n 1, 1) := by decide +kernel
theorem dX9_goOn_2 : decode cX9_goOn 2 = .ok (.iload_n 1, 1) := by decide +kernel
theorem dX9_goOn_3 : decode cX9_goOn 3 = .ok (.sipush 400, 3) := by decide +kernel
theorem dX9_goOn_6 : decode cX9_goOn 6 = .ok (.if_icmp .ge 20, 3) := by decide +kernel
theorem dX9_goOn_9 : decode cX9_goOn 9 = .ok (.aload_n 0, 1) := by decide +kernel
theorem dX9_goOn_10 : decode cX9_goOn 10 = .ok (.invokevirtual 256, 3) := by decide +kernel
theorem dX9_goOn_13 : decode cX9_goOn 13 = .ok (.ifCond .eq 13, 3) := by decide +kernel
theorem dX9_goOn_16 : decode cX9_goOn 16 = .ok (.aload_n 0, 1) := by decide +kernel
theorem dX9_goOn_17 : decode cX9_goOn 17 = .ok (.invokevirtual 259, 3) := by decide +kernel
theorem dX9_goOn_20 : decode cX9_goOn 20 = .ok (.iinc 1 1, 3) := by decide +kernel
theorem dX9_goOn_23 : decode cX9_goOn 23 = .ok (.goto (-21), 3) := by decide +kernel
theorem dX9_goOn_26 : decode cX9_goOn 26 = .ok (.iload_n 1, 1) := by decide +kernel
theorem dX9_goOn_27 : decode cX9_goOn 27 = .ok (.ireturn, 1) := by decide +kernel
theorem dX9_noPlayer_0 : decode cX9_noPlayer 0 = .ok (.aload_n 0, 1) := by decide +kernel
theorem dX9_noPlayer_1 : decode cX9_noPlayer 1 = .ok (.iload_n 1, 1) := by decide +kernel
theorem dX9_noPlayer_2 : decode cX9_noPlayer 2 = .ok (.iconst 0, 1) := by decide +kernel
theorem dX9_noPlayer_3 : decode cX9_noPlayer 3 = .ok (.aload_n 0, 1) := by decide +kernel
theorem dX9_noPlayer_4 : decode cX9_noPlayer 4 = .ok (.getfield 18, 3) := by decide +kernel
theorem dX9_noPlayer_7 : decode cX9_noPlayer 7 = .ok (.iconst 0, 1) := by decide +kernel
theorem dX9_noPlayer_8 : decode cX9_noPlayer 8 = .ok (.iaload, 1) := by decide +kernel
theorem dX9_noPlayer_9 : decode cX9_noPlayer 9 = .ok (.iconst 1, 1) := by decide +kernel
theorem dX9_noPlayer_10 : decode cX9_noPlayer 10 = .ok (.isub, 1) := by decide +kernel
theorem dX9_noPlayer_11 : decode cX9_noPlayer 11 = .ok (.invokestatic 65, 3) := by decide +kernel
theorem dX9_noPlayer_14 : decode cX9_noPlayer 14 = .ok (.ifCond .ne 7, 3) := by decide +kernel
theorem dX9_noPlayer_17 : decode cX9_noPlayer 17 = .ok (.iconst 1, 1) := by decide +kernel
theorem dX9_noPlayer_18 : decode cX9_noPlayer 18 = .ok (.goto 4, 3) := by decide +kernel
theorem dX9_noPlayer_21 : decode cX9_noPlayer 21 = .ok (.iconst 0, 1) := by decide +kernel
theorem dX9_noPlayer_22 : decode cX9_noPlayer 22 = .ok (.iconst 1, 1) := by decide +kernel
theorem dX9_noPlayer_23 : decode cX9_noPlayer 23 = .ok (.invokevirtual 167, 3) := by decide +kernel
theorem dX9_noPlayer_26 : decode cX9_noPlayer 26 = .ok (.ireturn, 1) := by decide +kernel
theorem dX9_songs_0 : decode cX9_songs 0 = .ok (.iconst 0, 1) := by decide +kernel
theorem dX9_songs_1 : decode cX9_songs 1 = .ok (.istore_n 1, 1) := by decide +kernel
theorem dX9_songs_2 : decode cX9_songs 2 = .ok (.iconst 0, 1) := by decide +kernel
theorem dX9_songs_3 : decode cX9_songs 3 = .ok (.istore_n 2, 1) := by decide +kernel
theorem dX9_songs_4 : decode cX9_songs 4 = .ok (.iload_n 2, 1) := by decide +kernel
theorem dX9_songs_5 : decode cX9_songs 5 = .ok (.aload_n 0, 1) := by decide +kernel
theorem dX9_songs_6 : decode cX9_songs 6 = .ok (.getfield 18, 3) := by decide +kernel
theorem dX9_songs_9 : decode cX9_songs 9 = .ok (.iconst 0, 1) := by decide +kernel
theorem dX9_songs_10 : decode cX9_songs 10 = .ok (.iaload, 1) := by decide +kernel
theorem dX9_songs_11 : decode cX9_songs 11 = .ok (.if_icmp .ge 75, 3) := by decide +kernel
theorem dX9_songs_14 : decode cX9_songs 14 = .ok (.aload_n 0, 1) := by decide +kernel
theorem dX9_songs_15 : decode cX9_songs 15 = .ok (.iload_n 2, 1) := by decide +kernel
theorem dX9_songs_16 : decode cX9_songs 16 = .ok (.invokevirtual 228, 3) := by decide +kernel
theorem dX9_songs_19 : decode cX9_songs 19 = .ok (.istore_n 3, 1) := by decide +kernel
theorem dX9_songs_20 : decode cX9_songs 20 = .ok (.iconst 0, 1) := by decide +kernel
theorem dX9_songs_21 : decode cX9_songs 21 = .ok (.istore 4, 2) := by decide +kernel
theorem dX9_songs_23 : decode cX9_songs 23 = .ok (.iload 4, 2) := by decide +kernel
theorem dX9_songs_25 : decode cX9_songs 25 = .ok (.iload_n 2, 1) := by decide +kernel
theorem dX9_songs_26 : decode cX9_songs 26 = .ok (.if_icmp .ge 42, 3) := by decide +kernel
theorem dX9_songs_29 : decode cX9_songs 29 = .ok (.iload_n 3, 1) := by decide +kernel
theorem dX9_songs_30 : decode cX9_songs 30 = .ok (.aload_n 0, 1) := by decide +kernel
theorem dX9_songs_31 : decode cX9_songs 31 = .ok (.iload 4, 2) := by decide +kernel
theorem dX9_songs_33 : decode cX9_songs 33 = .ok (.invokevirtual 228, 3) := by decide +kernel
theorem dX9_songs_36 : decode cX9_songs 36 = .ok (.ifCond .eq 19, 3) := by decide +kernel
theorem dX9_songs_39 : decode cX9_songs 39 = .ok (.aload_n 0, 1) := by decide +kernel
theorem dX9_songs_40 : decode cX9_songs 40 = .ok (.iload 4, 2) := by decide +kernel
theorem dX9_songs_42 : decode cX9_songs 42 = .ok (.iconst 4, 1) := by decide +kernel
theorem dX9_songs_43 : decode cX9_songs 43 = .ok (.invokevirtual 181, 3) := by decide +kernel
theorem dX9_songs_46 : decode cX9_songs 46 = .ok (.aload_n 0, 1) := by decide +kernel
theorem dX9_songs_47 : decode cX9_songs 47 = .ok (.iload_n 2, 1) := by decide +kernel
theorem dX9_songs_48 : decode cX9_songs 48 = .ok (.iconst 4, 1) := by decide +kernel
theorem dX9_songs_49 : decode cX9_songs 49 = .ok (.invokevirtual 181, 3) := by decide +kernel
theorem dX9_songs_52 : decode cX9_songs 52 = .ok (.if_icmp .eq 7, 3) := by decide +kernel
theorem dX9_songs_55 : decode cX9_songs 55 = .ok (.iconst 1, 1) := by decide +kernel
theorem dX9_songs_56 : decode cX9_songs 56 = .ok (.goto 4, 3) := by decide +kernel
theorem dX9_songs_59 : decode cX9_songs 59 = .ok (.iconst 0, 1) := by decide +kernel
theorem dX9_songs_60 : decode cX9_songs 60 = .ok (.iand, 1) := by decide +kernel
theorem dX9_songs_61 : decode cX9_songs 61 = .ok (.istore_n 3, 1) := by decide +kernel
theorem dX9_songs_62 : decode cX9_songs 62 = .ok (.iinc 4 1, 3) := by decide +kernel
theorem dX9_songs_65 : decode cX9_songs 65 = .ok (.goto (-42), 3) := by decide +kernel
theorem dX9_songs_68 : decode cX9_songs 68 = .ok (.iload_n 1, 1) := by decide +kernel
theorem dX9_songs_69 : decode cX9_songs 69 = .ok (.iload_n 3, 1) := by decide +kernel
theorem dX9_songs_70 : decode cX9_songs 70 = .ok (.ifCond .eq 7, 3) := by decide +kernel
theorem dX9_songs_73 : decode cX9_songs 73 = .ok (.iconst 1, 1) := by decide +kernel
theorem dX9_songs_74 : decode cX9_songs 74 = .ok (.goto 4, 3) := by decide +kernel
theorem dX9_songs_77 : decode cX9_songs 77 = .ok (.iconst 0, 1) := by decide +kernel
theorem dX9_songs_78 : decode cX9_songs 78 = .ok (.iadd, 1) := by decide +kernel
theorem dX9_songs_79 : decode cX9_songs 79 = .ok (.istore_n 1, 1) := by decide +kernel
theorem dX9_songs_80 : decode cX9_songs 80 = .ok (.iinc 2 1, 3) := by decide +kernel
theorem dX9_songs_83 : decode cX9_songs 83 = .ok (.goto (-79), 3) := by decide +kernel
theorem dX9_songs_86 : decode cX9_songs 86 = .ok (.iload_n 1, 1) := by decide +kernel
theorem dX9_songs_87 : decode cX9_songs 87 = .ok (.ireturn, 1) := by decide +kernel
theorem dX9_told_0 : decode cX9_told 0 = .ok (.iload_n 1, 1) := by decide +kernel
theorem dX9_told_1 : decode cX9_told 1 = .ok (.tableswitch 58 9 12 #[31, 36, 44, 52], 31) := by decide +kernel
theorem dX9_told_32 : decode cX9_told 32 = .ok (.aload_n 0, 1) := by decide +kernel
theorem dX9_told_33 : decode cX9_told 33 = .ok (.invokevirtual 262, 3) := by decide +kernel
theorem dX9_told_36 : decode cX9_told 36 = .ok (.ireturn, 1) := by decide +kernel
theorem dX9_told_37 : decode cX9_told 37 = .ok (.aload_n 0, 1) := by decide +kernel
theorem dX9_told_38 : decode cX9_told 38 = .ok (.getfield 18, 3) := by decide +kernel
theorem dX9_told_41 : decode cX9_told 41 = .ok (.bipush 9, 2) := by decide +kernel
theorem dX9_told_43 : decode cX9_told 43 = .ok (.iaload, 1) := by decide +kernel
theorem dX9_told_44 : decode cX9_told 44 = .ok (.ireturn, 1) := by decide +kernel
theorem dX9_told_45 : decode cX9_told 45 = .ok (.aload_n 0, 1) := by decide +kernel
theorem dX9_told_46 : decode cX9_told 46 = .ok (.getfield 18, 3) := by decide +kernel
theorem dX9_told_49 : decode cX9_told 49 = .ok (.bipush 10, 2) := by decide +kernel
theorem dX9_told_51 : decode cX9_told 51 = .ok (.iaload, 1) := by decide +kernel
theorem dX9_told_52 : decode cX9_told 52 = .ok (.ireturn, 1) := by decide +kernel
theorem dX9_told_53 : decode cX9_told 53 = .ok (.aload_n 0, 1) := by decide +kernel
theorem dX9_told_54 : decode cX9_told 54 = .ok (.iconst 1, 1) := by decide +kernel
theorem dX9_told_55 : decode cX9_told 55 = .ok (.invokevirtual 265, 3) := by decide +kernel
theorem dX9_told_58 : decode cX9_told 58 = .ok (.ireturn, 1) := by decide +kernel
theorem dX9_told_59 : decode cX9_told 59 = .ok (.aload_n 0, 1) := by decide +kernel
theorem dX9_told_60 : decode cX9_told 60 = .ok (.getfield 18, 3) := by decide +kernel
theorem dX9_told_63 : decode cX9_told 63 = .ok (.iload_n 1, 1) := by decide +kernel
theorem dX9_told_64 : decode cX9_told 64 = .ok (.iaload, 1) := by decide +kernel
theorem dX9_told_65 : decode cX9_told 65 = .ok (.ireturn, 1) := by decide +kernel
theorem dX9_state_0 : decode cX9_state 0 = .ok (.aload_n 0, 1) := by decide +kernel
theorem dX9_state_1 : decode cX9_state 1 = .ok (.iconst 0, 1) := by decide +kernel
theorem dX9_state_2 : decode cX9_state 2 = .ok (.putfield 40, 3) := by decide +kernel
theorem dX9_state_5 : decode cX9_state 5 = .ok (.aload_n 0, 1) := by decide +kernel
theorem dX9_state_6 : decode cX9_state 6 = .ok (.iload_n 1, 1) := by decide +kernel
theorem dX9_state_7 : decode cX9_state 7 = .ok (.iconst 0, 1) := by decide +kernel
theorem dX9_state_8 : decode cX9_state 8 = .ok (.bipush 12, 2) := by decide +kernel
theorem dX9_state_10 : decode cX9_state 10 = .ok (.invokestatic 65, 3) := by decide +kernel
theorem dX9_state_13 : decode cX9_state 13 = .ok (.ifCond .ne 7, 3) := by decide +kernel
theorem dX9_state_16 : decode cX9_state 16 = .ok (.iconst 1, 1) := by decide +kernel
theorem dX9_state_17 : decode cX9_state 17 = .ok (.goto 4, 3) := by decide +kernel
theorem dX9_state_20 : decode cX9_state 20 = .ok (.iconst 0, 1) := by decide +kernel
theorem dX9_state_21 : decode cX9_state 21 = .ok (.iconst 1, 1) := by decide +kernel
theorem dX9_state_22 : decode cX9_state 22 = .ok (.invokevirtual 167, 3) := by decide +kernel
theorem dX9_state_25 : decode cX9_state 25 = .ok (.ifCond .eq 7, 3) := by decide +kernel
theorem dX9_state_28 : decode cX9_state 28 = .ok (.iconst 0, 1) := by decide +kernel
theorem dX9_state_29 : decode cX9_state 29 = .ok (.goto 8, 3) := by decide +kernel
theorem dX9_state_32 : decode cX9_state 32 = .ok (.aload_n 0, 1) := by decide +kernel
theorem dX9_state_33 : decode cX9_state 33 = .ok (.iload_n 1, 1) := by decide +kernel
theorem dX9_state_34 : decode cX9_state 34 = .ok (.invokevirtual 267, 3) := by decide +kernel
theorem dX9_state_37 : decode cX9_state 37 = .ok (.ireturn, 1) := by decide +kernel
theorem dX9_toldPlayer_0 : decode cX9_toldPlayer 0 = .ok (.iload_n 2, 1) := by decide +kernel
theorem dX9_toldPlayer_1 : decode cX9_toldPlayer 1 = .ok (.tableswitch 117 0 8 #[51, 58, 64, 71, 78, 85, 93, 101, 109], 51) := by decide +kernel
theorem dX9_toldPlayer_52 : decode cX9_toldPlayer 52 = .ok (.aload_n 0, 1) := by decide +kernel
theorem dX9_toldPlayer_53 : decode cX9_toldPlayer 53 = .ok (.iload_n 1, 1) := by decide +kernel
theorem dX9_toldPlayer_54 : decode cX9_toldPlayer 54 = .ok (.iconst 0, 1) := by decide +kernel
theorem dX9_toldPlayer_55 : decode cX9_toldPlayer 55 = .ok (.invokevirtual 181, 3) := by decide +kernel
theorem dX9_toldPlayer_58 : decode cX9_toldPlayer 58 = .ok (.ireturn, 1) := by decide +kernel
theorem dX9_toldPlayer_59 : decode cX9_toldPlayer 59 = .ok (.aload_n 0, 1) := by decide +kernel
theorem dX9_toldPlayer_60 : decode cX9_toldPlayer 60 = .ok (.iload_n 1, 1) := by decide +kernel
theorem dX9_toldPlayer_61 : decode cX9_toldPlayer 61 = .ok (.invokevirtual 184, 3) := by decide +kernel
theorem dX9_toldPlayer_64 : decode cX9_toldPlayer 64 = .ok (.ireturn, 1) := by decide +kernel
theorem dX9_toldPlayer_65 : decode cX9_toldPlayer 65 = .ok (.aload_n 0, 1) := by decide +kernel
theorem dX9_toldPlayer_66 : decode cX9_toldPlayer 66 = .ok (.iload_n 1, 1) := by decide +kernel
theorem dX9_toldPlayer_67 : decode cX9_toldPlayer 67 = .ok (.iconst 3, 1) := by decide +kernel
theorem dX9_toldPlayer_68 : decode cX9_toldPlayer 68 = .ok (.invokevirtual 181, 3) := by decide +kernel
theorem dX9_toldPlayer_71 : decode cX9_toldPlayer 71 = .ok (.ireturn, 1) := by decide +kernel
theorem dX9_toldPlayer_72 : decode cX9_toldPlayer 72 = .ok (.aload_n 0, 1) := by decide +kernel
theorem dX9_toldPlayer_73 : decode cX9_toldPlayer 73 = .ok (.iload_n 1, 1) := by decide +kernel
theorem dX9_toldPlayer_74 : decode cX9_toldPlayer 74 = .ok (.iconst 4, 1) := by decide +kernel
theorem dX9_toldPlayer_75 : decode cX9_toldPlayer 75 = .ok (.invokevirtual 181, 3) := by decide +kernel
theorem dX9_toldPlayer_78 : decode cX9_toldPlayer 78 = .ok (.ireturn, 1) := by decide +kernel
theorem dX9_toldPlayer_79 : decode cX9_toldPlayer 79 = .ok (.aload_n 0, 1) := by decide +kernel
theorem dX9_toldPlayer_80 : decode cX9_toldPlayer 80 = .ok (.iload_n 1, 1) := by decide +kernel
theorem dX9_toldPlayer_81 : decode cX9_toldPlayer 81 = .ok (.iconst 5, 1) := by decide +kernel
theorem dX9_toldPlayer_82 : decode cX9_toldPlayer 82 = .ok (.invokevirtual 181, 3) := by decide +kernel
theorem dX9_toldPlayer_85 : decode cX9_toldPlayer 85 = .ok (.ireturn, 1) := by decide +kernel
theorem dX9_toldPlayer_86 : decode cX9_toldPlayer 86 = .ok (.aload_n 0, 1) := by decide +kernel
theorem dX9_toldPlayer_87 : decode cX9_toldPlayer 87 = .ok (.iload_n 1, 1) := by decide +kernel
theorem dX9_toldPlayer_88 : decode cX9_toldPlayer 88 = .ok (.bipush 6, 2) := by decide +kernel
theorem dX9_toldPlayer_90 : decode cX9_toldPlayer 90 = .ok (.invokevirtual 181, 3) := by decide +kernel
theorem dX9_toldPlayer_93 : decode cX9_toldPlayer 93 = .ok (.ireturn, 1) := by decide +kernel
theorem dX9_toldPlayer_94 : decode cX9_toldPlayer 94 = .ok (.aload_n 0, 1) := by decide +kernel
theorem dX9_toldPlayer_95 : decode cX9_toldPlayer 95 = .ok (.iload_n 1, 1) := by decide +kernel
theorem dX9_toldPlayer_96 : decode cX9_toldPlayer 96 = .ok (.bipush 9, 2) := by decide +kernel
theorem dX9_toldPlayer_98 : decode cX9_toldPlayer 98 = .ok (.invokevirtual 181, 3) := by decide +kernel
theorem dX9_toldPlayer_101 : decode cX9_toldPlayer 101 = .ok (.ireturn, 1) := by decide +kernel
theorem dX9_toldPlayer_102 : decode cX9_toldPlayer 102 = .ok (.aload_n 0, 1) := by decide +kernel
theorem dX9_toldPlayer_103 : decode cX9_toldPlayer 103 = .ok (.iload_n 1, 1) := by decide +kernel
theorem dX9_toldPlayer_104 : decode cX9_toldPlayer 104 = .ok (.bipush 10, 2) := by decide +kernel
theorem dX9_toldPlayer_106 : decode cX9_toldPlayer 106 = .ok (.invokevirtual 181, 3) := by decide +kernel
theorem dX9_toldPlayer_109 : decode cX9_toldPlayer 109 = .ok (.ireturn, 1) := by decide +kernel
theorem dX9_toldPlayer_110 : decode cX9_toldPlayer 110 = .ok (.aload_n 0, 1) := by decide +kernel
theorem dX9_toldPlayer_111 : decode cX9_toldPlayer 111 = .ok (.iload_n 1, 1) := by decide +kernel
theorem dX9_toldPlayer_112 : decode cX9_toldPlayer 112 = .ok (.bipush 11, 2) := by decide +kernel
theorem dX9_toldPlayer_114 : decode cX9_toldPlayer 114 = .ok (.invokevirtual 181, 3) := by decide +kernel
theorem dX9_toldPlayer_117 : decode cX9_toldPlayer 117 = .ok (.ireturn, 1) := by decide +kernel
theorem dX9_toldPlayer_118 : decode cX9_toldPlayer 118 = .ok (.aload_n 0, 1) := by decide +kernel
theorem dX9_toldPlayer_119 : decode cX9_toldPlayer 119 = .ok (.iload_n 1, 1) := by decide +kernel
theorem dX9_toldPlayer_120 : decode cX9_toldPlayer 120 = .ok (.invokevirtual 244, 3) := by decide +kernel
theorem dX9_toldPlayer_123 : decode cX9_toldPlayer 123 = .ok (.aload_n 0, 1) := by decide +kernel
theorem dX9_toldPlayer_124 : decode cX9_toldPlayer 124 = .ok (.aload_n 0, 1) := by decide +kernel
theorem dX9_toldPlayer_125 : decode cX9_toldPlayer 125 = .ok (.getfield 18, 3) := by decide +kernel
theorem dX9_toldPlayer_128 : decode cX9_toldPlayer 128 = .ok (.iconst 2, 1) := by decide +kernel
theorem dX9_toldPlayer_129 : decode cX9_toldPlayer 129 = .ok (.iaload, 1) := by decide +kernel
theorem dX9_toldPlayer_130 : decode cX9_toldPlayer 130 = .ok (.invokevirtual 184, 3) := by decide +kernel
theorem dX9_toldPlayer_133 : decode cX9_toldPlayer 133 = .ok (.isub, 1) := by decide +kernel
theorem dX9_toldPlayer_134 : decode cX9_toldPlayer 134 = .ok (.ireturn, 1) := by decide +kernel
theorem dX9_player_0 : decode cX9_player 0 = .ok (.aload_n 0, 1) := by decide +kernel
theorem dX9_player_1 : decode cX9_player 1 = .ok (.iconst 0, 1) := by decide +kernel
theorem dX9_player_2 : decode cX9_player 2 = .ok (.putfield 40, 3) := by decide +kernel
theorem dX9_player_5 : decode cX9_player 5 = .ok (.aload_n 0, 1) := by decide +kernel
theorem dX9_player_6 : decode cX9_player 6 = .ok (.iload_n 1, 1) := by decide +kernel
theorem dX9_player_7 : decode cX9_player 7 = .ok (.invokevirtual 270, 3) := by decide +kernel
theorem dX9_player_10 : decode cX9_player 10 = .ok (.ifCond .ne 26, 3) := by decide +kernel
theorem dX9_player_13 : decode cX9_player 13 = .ok (.aload_n 0, 1) := by decide +kernel
theorem dX9_player_14 : decode cX9_player 14 = .ok (.iload_n 2, 1) := by decide +kernel
theorem dX9_player_15 : decode cX9_player 15 = .ok (.iconst 0, 1) := by decide +kernel
theorem dX9_player_16 : decode cX9_player 16 = .ok (.bipush 9, 2) := by decide +kernel
theorem dX9_player_18 : decode cX9_player 18 = .ok (.invokestatic 65, 3) := by decide +kernel
theorem dX9_player_21 : decode cX9_player 21 = .ok (.ifCond .ne 7, 3) := by decide +kernel
theorem dX9_player_24 : decode cX9_player 24 = .ok (.iconst 1, 1) := by decide +kernel
theorem dX9_player_25 : decode cX9_player 25 = .ok (.goto 4, 3) := by decide +kernel
theorem dX9_player_28 : decode cX9_player 28 = .ok (.iconst 0, 1) := by decide +kernel
theorem dX9_player_29 : decode cX9_player 29 = .ok (.iconst 2, 1) := by decide +kernel
theorem dX9_player_30 : decode cX9_player 30 = .ok (.invokevirtual 167, 3) := by decide +kernel
theorem dX9_player_33 : decode cX9_player 33 = .ok (.ifCond .eq 7, 3) := by decide +kernel
theorem dX9_player_36 : decode cX9_player 36 = .ok (.iconst 0, 1) := by decide +kernel
theorem dX9_player_37 : decode cX9_player 37 = .ok (.goto 9, 3) := by decide +kernel
theorem dX9_player_40 : decode cX9_player 40 = .ok (.aload_n 0, 1) := by decide +kernel
theorem dX9_player_41 : decode cX9_player 41 = .ok (.iload_n 1, 1) := by decide +kernel
theorem dX9_player_42 : decode cX9_player 42 = .ok (.iload_n 2, 1) := by decide +kernel
theorem dX9_player_43 : decode cX9_player 43 = .ok (.invokevirtual 273, 3) := by decide +kernel
theorem dX9_player_46 : decode cX9_player 46 = .ok (.ireturn, 1) := by decide +kernel
theorem dX9_link_0 : decode cX9_link 0 = .ok (.aload_n 0, 1) := by decide +kernel
theorem dX9_link_1 : decode cX9_link 1 = .ok (.iconst 0, 1) := by decide +kernel
theorem dX9_link_2 : decode cX9_link 2 = .ok (.putfield 40, 3) := by decide +kernel
theorem dX9_link_5 : decode cX9_link 5 = .ok (.aload_n 0, 1) := by decide +kernel
theorem dX9_link_6 : decode cX9_link 6 = .ok (.iload_n 1, 1) := by decide +kernel
theorem dX9_link_7 : decode cX9_link 7 = .ok (.invokevirtual 270, 3) := by decide +kernel
theorem dX9_link_10 : decode cX9_link 10 = .ok (.ifCond .ne 11, 3) := by decide +kernel
theorem dX9_link_13 : decode cX9_link 13 = .ok (.aload_n 0, 1) := by decide +kernel
theorem dX9_link_14 : decode cX9_link 14 = .ok (.iload_n 2, 1) := by decide +kernel
theorem dX9_link_15 : decode cX9_link 15 = .ok (.invokevirtual 270, 3) := by decide +kernel
theorem dX9_link_18 : decode cX9_link 18 = .ok (.ifCond .eq 7, 3) := by decide +kernel
theorem dX9_link_21 : decode cX9_link 21 = .ok (.iconst 0, 1) := by decide +kernel
theorem dX9_link_22 : decode cX9_link 22 = .ok (.goto 13, 3) := by decide +kernel
theorem dX9_link_25 : decode cX9_link 25 = .ok (.aload_n 0, 1) := by decide +kernel
theorem dX9_link_26 : decode cX9_link 26 = .ok (.getfield 18, 3) := by decide +kernel
theorem dX9_link_29 : decode cX9_link 29 = .ok (.iload_n 1, 1) := by decide +kernel
theorem dX9_link_30 : decode cX9_link 30 = .ok (.iload_n 2, 1) := by decide +kernel
theorem dX9_link_31 : decode cX9_link 31 = .ok (.invokestatic 145, 3) := by decide +kernel
theorem dX9_link_34 : decode cX9_link 34 = .ok (.iaload, 1) := by decide +kernel
theorem dX9_link_35 : decode cX9_link 35 = .ok (.ireturn, 1) := by decide +kernel
theorem dX9_messageAt_0 : decode cX9_messageAt 0 = .ok (.iload_n 1, 1) := by decide +kernel
theorem dX9_messageAt_1 : decode cX9_messageAt 1 = .ok (.istore_n 2, 1) := by decide +kernel
theorem dX9_messageAt_2 : decode cX9_messageAt 2 = .ok (.iconst (-1), 1) := by decide +kernel
theorem dX9_messageAt_3 : decode cX9_messageAt 3 = .ok (.istore_n 3, 1) := by decide +kernel
theorem dX9_messageAt_4 : decode cX9_messageAt 4 = .ok (.aload_n 0, 1) := by decide +kernel
theorem dX9_messageAt_5 : decode cX9_messageAt 5 = .ok (.getfield 18, 3) := by decide +kernel
theorem dX9_messageAt_8 : decode cX9_messageAt 8 = .ok (.iconst 1, 1) := by decide +kernel
theorem dX9_messageAt_9 : decode cX9_messageAt 9 = .ok (.iaload, 1) := by decide +kernel
theorem dX9_messageAt_10 : decode cX9_messageAt 10 = .ok (.iconst 1, 1) := by decide +kernel
theorem dX9_messageAt_11 : decode cX9_messageAt 11 = .ok (.iadd, 1) := by decide +kernel
theorem dX9_messageAt_12 : decode cX9_messageAt 12 = .ok (.istore 4, 2) := by decide +kernel
theorem dX9_messageAt_14 : decode cX9_messageAt 14 = .ok (.iload_n 3, 1) := by decide +kernel
theorem dX9_messageAt_15 : decode cX9_messageAt 15 = .ok (.iconst (-1), 1) := by decide +kernel
theorem dX9_messageAt_16 : decode cX9_messageAt 16 = .ok (.if_icmp .ne 72, 3) := by decide +kernel
theorem dX9_messageAt_19 : decode cX9_messageAt 19 = .ok (.iconst 0, 1) := by decide +kernel
theorem dX9_messageAt_20 : decode cX9_messageAt 20 = .ok (.istore 5, 2) := by decide +kernel
theorem dX9_messageAt_22 : decode cX9_messageAt 22 = .ok (.iload 5, 2) := by decide +kernel
theorem dX9_messageAt_24 : decode cX9_messageAt 24 = .ok (.aload_n 0, 1) := by decide +kernel
theorem dX9_messageAt_25 : decode cX9_messageAt 25 = .ok (.getfield 18, 3) := by decide +kernel
theorem dX9_messageAt_28 : decode cX9_messageAt 28 = .ok (.iconst 3, 1) := by decide +kernel
theorem dX9_messageAt_29 : decode cX9_messageAt 29 = .ok (.iaload, 1) := by decide +kernel
theorem dX9_messageAt_30 : decode cX9_messageAt 30 = .ok (.if_icmp .ge 52, 3) := by decide +kernel
theorem dX9_messageAt_33 : decode cX9_messageAt 33 = .ok (.iload_n 3, 1) := by decide +kernel
theorem dX9_messageAt_34 : decode cX9_messageAt 34 = .ok (.iconst (-1), 1) := by decide +kernel
theorem dX9_messageAt_35 : decode cX9_messageAt 35 = .ok (.if_icmp .ne 47, 3) := by decide +kernel
theorem dX9_messageAt_38 : decode cX9_messageAt 38 = .ok (.sipush 1383, 3) := by decide +kernel
theorem dX9_messageAt_41 : decode cX9_messageAt 41 = .ok (.bipush 6, 2) := by decide +kernel
theorem dX9_messageAt_43 : decode cX9_messageAt 43 = .ok (.iload 5, 2) := by decide +kernel
theorem dX9_messageAt_45 : decode cX9_messageAt 45 = .ok (.imul, 1) := by decide +kernel
theorem dX9_messageAt_46 : decode cX9_messageAt 46 = .ok (.iadd, 1) := by decide +kernel
theorem dX9_messageAt_47 : decode cX9_messageAt 47 = .ok (.istore 6, 2) := by decide +kernel
theorem dX9_messageAt_49 : decode cX9_messageAt 49 = .ok (.aload_n 0, 1) := by decide +kernel
theorem dX9_messageAt_50 : decode cX9_messageAt 50 = .ok (.getfield 18, 3) := by decide +kernel
theorem dX9_messageAt_53 : decode cX9_messageAt 53 = .ok (.iload 6, 2) := by decide +kernel
theorem dX9_messageAt_55 : decode cX9_messageAt 55 = .ok (.iconst 1, 1) := by decide +kernel
theorem dX9_messageAt_56 : decode cX9_messageAt 56 = .ok (.iadd, 1) := by decide +kernel
theorem dX9_messageAt_57 : decode cX9_messageAt 57 = .ok (.iaload, 1) := by decide +kernel
theorem dX9_messageAt_58 : decode cX9_messageAt 58 = .ok (.iload 4, 2) := by decide +kernel
theorem dX9_messageAt_60 : decode cX9_messageAt 60 = .ok (.if_icmp .eq 6, 3) := by decide +kernel
theorem dX9_messageAt_63 : decode cX9_messageAt 63 = .ok (.goto 13, 3) := by decide +kernel
theorem dX9_messageAt_66 : decode cX9_messageAt 66 = .ok (.iload_n 2, 1) := by decide +kernel
theorem dX9_messageAt_67 : decode cX9_messageAt 67 = .ok (.ifCond .ne 6, 3) := by decide +kernel
theorem dX9_messageAt_70 : decode cX9_messageAt 70 = .ok (.iload 6, 2) := by decide +kernel
theorem dX9_messageAt_72 : decode cX9_messageAt 72 = .ok (.istore_n 3, 1) := by decide +kernel
theorem dX9_messageAt_73 : decode cX9_messageAt 73 = .ok (.iinc 2 (-1), 3) := by decide +kernel
theorem dX9_messageAt_76 : decode cX9_messageAt 76 = .ok (.iinc 5 1, 3) := by decide +kernel
theorem dX9_messageAt_79 : decode cX9_messageAt 79 = .ok (.goto (-57), 3) := by decide +kernel
theorem dX9_messageAt_82 : decode cX9_messageAt 82 = .ok (.iinc 4 1, 3) := by decide +kernel
theorem dX9_messageAt_85 : decode cX9_messageAt 85 = .ok (.goto (-71), 3) := by decide +kernel
theorem dX9_messageAt_88 : decode cX9_messageAt 88 = .ok (.iload_n 3, 1) := by decide +kernel
theorem dX9_messageAt_89 : decode cX9_messageAt 89 = .ok (.ireturn, 1) := by decide +kernel
theorem dX9_toldMessage_0 : decode cX9_toldMessage 0 = .ok (.aload_n 0, 1) := by decide +kernel
theorem dX9_toldMessage_1 : decode cX9_toldMessage 1 = .ok (.getfield 18, 3) := by decide +kernel
theorem dX9_toldMessage_4 : decode cX9_toldMessage 4 = .ok (.iload_n 1, 1) := by decide +kernel
theorem dX9_toldMessage_5 : decode cX9_toldMessage 5 = .ok (.iconst 0, 1) := by decide +kernel
theorem dX9_toldMessage_6 : decode cX9_toldMessage 6 = .ok (.iadd, 1) := by decide +kernel
theorem dX9_toldMessage_7 : decode cX9_toldMessage 7 = .ok (.iaload, 1) := by decide +kernel
theorem dX9_toldMessage_8 : decode cX9_toldMessage 8 = .ok (.istore_n 3, 1) := by decide +kernel
theorem dX9_toldMessage_9 : decode cX9_toldMessage 9 = .ok (.iload_n 2, 1) := by decide +kernel
theorem dX9_toldMessage_10 : decode cX9_toldMessage 10 = .ok (.ifCond .ne 10, 3) := by decide +kernel
theorem dX9_toldMessage_13 : decode cX9_toldMessage 13 = .ok (.iload_n 3, 1) := by decide +kernel
theorem dX9_toldMessage_14 : decode cX9_toldMessage 14 = .ok (.bipush 8, 2) := by decide +kernel
theorem dX9_toldMessage_16 : decode cX9_toldMessage 16 = .ok (.irem, 1) := by decide +kernel
theorem dX9_toldMessage_17 : decode cX9_toldMessage 17 = .ok (.goto 40, 3) := by decide +kernel
theorem dX9_toldMessage_20 : decode cX9_toldMessage 20 = .ok (.iload_n 2, 1) := by decide +kernel
theorem dX9_toldMessage_21 : decode cX9_toldMessage 21 = .ok (.iconst 1, 1) := by decide +kernel
theorem dX9_toldMessage_22 : decode cX9_toldMessage 22 = .ok (.if_icmp .ne 13, 3) := by decide +kernel
theorem dX9_toldMessage_25 : decode cX9_toldMessage 25 = .ok (.iload_n 3, 1) := by decide +kernel
theorem dX9_toldMessage_26 : decode cX9_toldMessage 26 = .ok (.bipush 8, 2) := by decide +kernel
theorem dX9_toldMessage_28 : decode cX9_toldMessage 28 = .ok (.idiv, 1) := by decide +kernel
theorem dX9_toldMessage_29 : decode cX9_toldMessage 29 = .ok (.bipush 8, 2) := by decide +kernel
theorem dX9_toldMessage_31 : decode cX9_toldMessage 31 = .ok (.irem, 1) := by decide +kernel
theorem dX9_toldMessage_32 : decode cX9_toldMessage 32 = .ok (.goto 25, 3) := by decide +kernel
theorem dX9_toldMessage_35 : decode cX9_toldMessage 35 = .ok (.iload_n 2, 1) := by decide +kernel
theorem dX9_toldMessage_36 : decode cX9_toldMessage 36 = .ok (.iconst 2, 1) := by decide +kernel
theorem dX9_toldMessage_37 : decode cX9_toldMessage 37 = .ok (.if_icmp .ne 10, 3) := by decide +kernel
theorem dX9_toldMessage_40 : decode cX9_toldMessage 40 = .ok (.iload_n 3, 1) := by decide +kernel
theorem dX9_toldMessage_41 : decode cX9_toldMessage 41 = .ok (.bipush 64, 2) := by decide +kernel
theorem dX9_toldMessage_43 : decode cX9_toldMessage 43 = .ok (.idiv, 1) := by decide +kernel
theorem dX9_toldMessage_44 : decode cX9_toldMessage 44 = .ok (.goto 13, 3) := by decide +kernel
theorem dX9_toldMessage_47 : decode cX9_toldMessage 47 = .ok (.aload_n 0, 1) := by decide +kernel
theorem dX9_toldMessage_48 : decode cX9_toldMessage 48 = .ok (.getfield 18, 3) := by decide +kernel
theorem dX9_toldMessage_51 : decode cX9_toldMessage 51 = .ok (.iload_n 1, 1) := by decide +kernel
theorem dX9_toldMessage_52 : decode cX9_toldMessage 52 = .ok (.iload_n 2, 1) := by decide +kernel
theorem dX9_toldMessage_53 : decode cX9_toldMessage 53 = .ok (.iadd, 1) := by decide +kernel
theorem dX9_toldMessage_54 : decode cX9_toldMessage 54 = .ok (.iconst 2, 1) := by decide +kernel
theorem dX9_toldMessage_55 : decode cX9_toldMessage 55 = .ok (.isub, 1) := by decide +kernel
theorem dX9_toldMessage_56 : decode cX9_toldMessage 56 = .ok (.iaload, 1) := by decide +kernel
theorem dX9_toldMessage_57 : decode cX9_toldMessage 57 = .ok (.ireturn, 1) := by decide +kernel
theorem dX9_message_0 : decode cX9_message 0 = .ok (.aload_n 0, 1) := by decide +kernel
theorem dX9_message_1 : decode cX9_message 1 = .ok (.iconst 0, 1) := by decide +kernel
theorem dX9_message_2 : decode cX9_message 2 = .ok (.putfield 40, 3) := by decide +kernel
theorem dX9_message_5 : decode cX9_message 5 = .ok (.aload_n 0, 1) := by decide +kernel
theorem dX9_message_6 : decode cX9_message 6 = .ok (.iload_n 1, 1) := by decide +kernel
theorem dX9_message_7 : decode cX9_message 7 = .ok (.iconst 0, 1) := by decide +kernel
theorem dX9_message_8 : decode cX9_message 8 = .ok (.aload_n 0, 1) := by decide +kernel
theorem dX9_message_9 : decode cX9_message 9 = .ok (.getfield 18, 3) := by decide +kernel
theorem dX9_message_12 : decode cX9_message 12 = .ok (.iconst 3, 1) := by decide +kernel
theorem dX9_message_13 : decode cX9_message 13 = .ok (.iaload, 1) := by decide +kernel
theorem dX9_message_14 : decode cX9_message 14 = .ok (.iconst 1, 1) := by decide +kernel
theorem dX9_message_15 : decode cX9_message 15 = .ok (.isub, 1) := by decide +kernel
theorem dX9_message_16 : decode cX9_message 16 = .ok (.invokestatic 65, 3) := by decide +kernel
theorem dX9_message_19 : decode cX9_message 19 = .ok (.ifCond .ne 7, 3) := by decide +kernel
theorem dX9_message_22 : decode cX9_message 22 = .ok (.iconst 1, 1) := by decide +kernel
theorem dX9_message_23 : decode cX9_message 23 = .ok (.goto 4, 3) := by decide +kernel
theorem dX9_message_26 : decode cX9_message 26 = .ok (.iconst 0, 1) := by decide +kernel
theorem dX9_message_27 : decode cX9_message 27 = .ok (.iconst 1, 1) := by decide +kernel
theorem dX9_message_28 : decode cX9_message 28 = .ok (.invokevirtual 167, 3) := by decide +kernel
theorem dX9_message_31 : decode cX9_message 31 = .ok (.ifCond .ne 25, 3) := by decide +kernel
theorem dX9_message_34 : decode cX9_message 34 = .ok (.aload_n 0, 1) := by decide +kernel
theorem dX9_message_35 : decode cX9_message 35 = .ok (.iload_n 2, 1) := by decide +kernel
theorem dX9_message_36 : decode cX9_message 36 = .ok (.iconst 0, 1) := by decide +kernel
theorem dX9_message_37 : decode cX9_message 37 = .ok (.iconst 5, 1) := by decide +kernel
theorem dX9_message_38 : decode cX9_message 38 = .ok (.invokestatic 65, 3) := by decide +kernel
theorem dX9_message_41 : decode cX9_message 41 = .ok (.ifCond .ne 7, 3) := by decide +kernel
theorem dX9_message_44 : decode cX9_message 44 = .ok (.iconst 1, 1) := by decide +kernel
theorem dX9_message_45 : decode cX9_message 45 = .ok (.goto 4, 3) := by decide +kernel
theorem dX9_message_48 : decode cX9_message 48 = .ok (.iconst 0, 1) := by decide +kernel
theorem dX9_message_49 : decode cX9_message 49 = .ok (.iconst 2, 1) := by decide +kernel
theorem dX9_message_50 : decode cX9_message 50 = .ok (.invokevirtual 167, 3) := by decide +kernel
theorem dX9_message_53 : decode cX9_message 53 = .ok (.ifCond .eq 7, 3) := by decide +kernel
theorem dX9_message_56 : decode cX9_message 56 = .ok (.iconst 0, 1) := by decide +kernel
theorem dX9_message_57 : decode cX9_message 57 = .ok (.goto 13, 3) := by decide +kernel
theorem dX9_message_60 : decode cX9_message 60 = .ok (.aload_n 0, 1) := by decide +kernel
theorem dX9_message_61 : decode cX9_message 61 = .ok (.aload_n 0, 1) := by decide +kernel
theorem dX9_message_62 : decode cX9_message 62 = .ok (.iload_n 1, 1) := by decide +kernel
theorem dX9_message_63 : decode cX9_message 63 = .ok (.invokevirtual 276, 3) := by decide +kernel
theorem dX9_message_66 : decode cX9_message 66 = .ok (.iload_n 2, 1) := by decide +kernel
theorem dX9_message_67 : decode cX9_message 67 = .ok (.invokevirtual 279, 3) := by decide +kernel
theorem dX9_message_70 : decode cX9_message 70 = .ok (.ireturn, 1) := by decide +kernel
theorem dX9_proposal_0 : decode cX9_proposal 0 = .ok (.aload_n 0, 1) := by decide +kernel
theorem dX9_proposal_1 : decode cX9_proposal 1 = .ok (.iconst 0, 1) := by decide +kernel
theorem dX9_proposal_2 : decode cX9_proposal 2 = .ok (.putfield 40, 3) := by decide +kernel
theorem dX9_proposal_5 : decode cX9_proposal 5 = .ok (.aload_n 0, 1) := by decide +kernel
theorem dX9_proposal_6 : decode cX9_proposal 6 = .ok (.aload_n 0, 1) := by decide +kernel
theorem dX9_proposal_7 : decode cX9_proposal 7 = .ok (.getfield 18, 3) := by decide +kernel
theorem dX9_proposal_10 : decode cX9_proposal 10 = .ok (.bipush 6, 2) := by decide +kernel
theorem dX9_proposal_12 : decode cX9_proposal 12 = .ok (.iaload, 1) := by decide +kernel
theorem dX9_proposal_13 : decode cX9_proposal 13 = .ok (.ifCond .ne 7, 3) := by decide +kernel
theorem dX9_proposal_16 : decode cX9_proposal 16 = .ok (.iconst 1, 1) := by decide +kernel
theorem dX9_proposal_17 : decode cX9_proposal 17 = .ok (.goto 4, 3) := by decide +kernel
theorem dX9_proposal_20 : decode cX9_proposal 20 = .ok (.iconst 0, 1) := by decide +kernel
theorem dX9_proposal_21 : decode cX9_proposal 21 = .ok (.iconst 1, 1) := by decide +kernel
theorem dX9_proposal_22 : decode cX9_proposal 22 = .ok (.invokevirtual 167, 3) := by decide +kernel
theorem dX9_proposal_25 : decode cX9_proposal 25 = .ok (.ifCond .ne 25, 3) := by decide +kernel
theorem dX9_proposal_28 : decode cX9_proposal 28 = .ok (.aload_n 0, 1) := by decide +kernel
theorem dX9_proposal_29 : decode cX9_proposal 29 = .ok (.iload_n 1, 1) := by decide +kernel
theorem dX9_proposal_30 : decode cX9_proposal 30 = .ok (.iconst 0, 1) := by decide +kernel
theorem dX9_proposal_31 : decode cX9_proposal 31 = .ok (.iconst 5, 1) := by decide +kernel
theorem dX9_proposal_32 : decode cX9_proposal 32 = .ok (.invokestatic 65, 3) := by decide +kernel
theorem dX9_proposal_35 : decode cX9_proposal 35 = .ok (.ifCond .ne 7, 3) := by decide +kernel
theorem dX9_proposal_38 : decode cX9_proposal 38 = .ok (.iconst 1, 1) := by decide +kernel
theorem dX9_proposal_39 : decode cX9_proposal 39 = .ok (.goto 4, 3) := by decide +kernel
theorem dX9_proposal_42 : decode cX9_proposal 42 = .ok (.iconst 0, 1) := by decide +kernel
theorem dX9_proposal_43 : decode cX9_proposal 43 = .ok (.iconst 2, 1) := by decide +kernel
theorem dX9_proposal_44 : decode cX9_proposal 44 = .ok (.invokevirtual 167, 3) := by decide +kernel
theorem dX9_proposal_47 : decode cX9_proposal 47 = .ok (.ifCond .eq 7, 3) := by decide +kernel
theorem dX9_proposal_50 : decode cX9_proposal 50 = .ok (.iconst 0, 1) := by decide +kernel
theorem dX9_proposal_51 : decode cX9_proposal 51 = .ok (.goto 12, 3) := by decide +kernel
theorem dX9_proposal_54 : decode cX9_proposal 54 = .ok (.aload_n 0, 1) := by decide +kernel
theorem dX9_proposal_55 : decode cX9_proposal 55 = .ok (.getfield 18, 3) := by decide +kernel
theorem dX9_proposal_58 : decode cX9_proposal 58 = .ok (.bipush 15, 2) := by decide +kernel
theorem dX9_proposal_60 : decode cX9_proposal 60 = .ok (.iload_n 1, 1) := by decide +kernel
theorem dX9_proposal_61 : decode cX9_proposal 61 = .ok (.iadd, 1) := by decide +kernel
theorem dX9_proposal_62 : decode cX9_proposal 62 = .ok (.iaload, 1) := by decide +kernel
theorem dX9_proposal_63 : decode cX9_proposal 63 = .ok (.ireturn, 1) := by decide +kernel
theorem dX9_spreadNow_0 : decode cX9_spreadNow 0 = .ok (.aload_n 0, 1) := by decide +kernel
theorem dX9_spreadNow_1 : decode cX9_spreadNow 1 = .ok (.getfield 18, 3) := by decide +kernel
theorem dX9_spreadNow_4 : decode cX9_spreadNow 4 = .ok (.bipush 21, 2) := by decide +kernel
theorem dX9_spreadNow_6 : decode cX9_spreadNow 6 = .ok (.iaload, 1) := by decide +kernel
theorem dX9_spreadNow_7 : decode cX9_spreadNow 7 = .ok (.iconst (-1), 1) := by decide +kernel
theorem dX9_spreadNow_8 : decode cX9_spreadNow 8 = .ok (.if_icmp .ne 7, 3) := by decide +kernel
theorem dX9_spreadNow_11 : decode cX9_spreadNow 11 = .ok (.iconst (-1), 1) := by decide +kernel
theorem dX9_spreadNow_12 : decode cX9_spreadNow 12 = .ok (.goto 18, 3) := by decide +kernel
theorem dX9_spreadNow_15 : decode cX9_spreadNow 15 = .ok (.aload_n 0, 1) := by decide +kernel
theorem dX9_spreadNow_16 : decode cX9_spreadNow 16 = .ok (.getfield 18, 3) := by decide +kernel
theorem dX9_spreadNow_19 : decode cX9_spreadNow 19 = .ok (.bipush 22, 2) := by decide +kernel
theorem dX9_spreadNow_21 : decode cX9_spreadNow 21 = .ok (.iaload, 1) := by decide +kernel
theorem dX9_spreadNow_22 : decode cX9_spreadNow 22 = .ok (.aload_n 0, 1) := by decide +kernel
theorem dX9_spreadNow_23 : decode cX9_spreadNow 23 = .ok (.getfield 18, 3) := by decide +kernel
theorem dX9_spreadNow_26 : decode cX9_spreadNow 26 = .ok (.bipush 21, 2) := by decide +kernel
theorem dX9_spreadNow_28 : decode cX9_spreadNow 28 = .ok (.iaload, 1) := by decide +kernel
theorem dX9_spreadNow_29 : decode cX9_spreadNow 29 = .ok (.isub, 1) := by decide +kernel
theorem dX9_spreadNow_30 : decode cX9_spreadNow 30 = .ok (.ireturn, 1) := by decide +kernel
theorem dX9_spread_0 : decode cX9_spread 0 = .ok (.aload_n 0, 1) := by decide +kernel
theorem dX9_spread_1 : decode cX9_spread 1 = .ok (.iconst 0, 1) := by decide +kernel
theorem dX9_spread_2 : decode cX9_spread 2 = .ok (.putfield 40, 3) := by decide +kernel
theorem dX9_spread_5 : decode cX9_spread 5 = .ok (.aload_n 0, 1) := by decide +kernel
theorem dX9_spread_6 : decode cX9_spread 6 = .ok (.invokevirtual 282, 3) := by decide +kernel
theorem dX9_spread_9 : decode cX9_spread 9 = .ok (.ireturn, 1) := by decide +kernel
theorem dX9_foretold_0 : decode cX9_foretold 0 = .ok (.aload_n 0, 1) := by decide +kernel
theorem dX9_foretold_1 : decode cX9_foretold 1 = .ok (.iconst 0, 1) := by decide +kernel
theorem dX9_foretold_2 : decode cX9_foretold 2 = .ok (.putfield 40, 3) := by decide +kernel
theorem dX9_foretold_5 : decode cX9_foretold 5 = .ok (.aload_n 0, 1) := by decide +kernel
theorem dX9_foretold_6 : decode cX9_foretold 6 = .ok (.iload_n 1, 1) := by decide +kernel
theorem dX9_foretold_7 : decode cX9_foretold 7 = .ok (.iconst 0, 1) := by decide +kernel
theorem dX9_foretold_8 : decode cX9_foretold 8 = .ok (.iconst 4, 1) := by decide +kernel
theorem dX9_foretold_9 : decode cX9_foretold 9 = .ok (.invokestatic 65, 3) := by decide +kernel
theorem dX9_foretold_12 : decode cX9_foretold 12 = .ok (.ifCond .ne 7, 3) := by decide +kernel
theorem dX9_foretold_15 : decode cX9_foretold 15 = .ok (.iconst 1, 1) := by decide +kernel
theorem dX9_foretold_16 : decode cX9_foretold 16 = .ok (.goto 4, 3) := by decide +kernel
theorem dX9_foretold_19 : decode cX9_foretold 19 = .ok (.iconst 0, 1) := by decide +kernel
theorem dX9_foretold_20 : decode cX9_foretold 20 = .ok (.iconst 1, 1) := by decide +kernel
theorem dX9_foretold_21 : decode cX9_foretold 21 = .ok (.invokevirtual 167, 3) := by decide +kernel
theorem dX9_foretold_24 : decode cX9_foretold 24 = .ok (.ifCond .eq 5, 3) := by decide +kernel
theorem dX9_foretold_27 : decode cX9_foretold 27 = .ok (.iconst 0, 1) := by decide +kernel
theorem dX9_foretold_28 : decode cX9_foretold 28 = .ok (.ireturn, 1) := by decide +kernel
theorem dX9_foretold_29 : decode cX9_foretold 29 = .ok (.aload_n 0, 1) := by decide +kernel
theorem dX9_foretold_30 : decode cX9_foretold 30 = .ok (.getfield 18, 3) := by decide +kernel
theorem dX9_foretold_33 : decode cX9_foretold 33 = .ok (.aload_n 0, 1) := by decide +kernel
theorem dX9_foretold_34 : decode cX9_foretold 34 = .ok (.getfield 21, 3) := by decide +kernel
theorem dX9_foretold_37 : decode cX9_foretold 37 = .ok (.invokestatic 177, 3) := by decide +kernel
theorem dX9_foretold_40 : decode cX9_foretold 40 = .ok (.aload_n 0, 1) := by decide +kernel
theorem dX9_foretold_41 : decode cX9_foretold 41 = .ok (.getfield 18, 3) := by decide +kernel
theorem dX9_foretold_44 : decode cX9_foretold 44 = .ok (.bipush 10, 2) := by decide +kernel
theorem dX9_foretold_46 : decode cX9_foretold 46 = .ok (.iaload, 1) := by decide +kernel
theorem dX9_foretold_47 : decode cX9_foretold 47 = .ok (.istore_n 2, 1) := by decide +kernel
theorem dX9_foretold_48 : decode cX9_foretold 48 = .ok (.aload_n 0, 1) := by decide +kernel
theorem dX9_foretold_49 : decode cX9_foretold 49 = .ok (.invokevirtual 285, 3) := by decide +kernel
theorem dX9_foretold_52 : decode cX9_foretold 52 = .ok (.istore_n 3, 1) := by decide +kernel
theorem dX9_foretold_53 : decode cX9_foretold 53 = .ok (.iload_n 1, 1) := by decide +kernel
theorem dX9_foretold_54 : decode cX9_foretold 54 = .ok (.ifCond .ne 7, 3) := by decide +kernel
theorem dX9_foretold_57 : decode cX9_foretold 57 = .ok (.iload_n 3, 1) := by decide +kernel
theorem dX9_foretold_58 : decode cX9_foretold 58 = .ok (.goto 65, 3) := by decide +kernel
theorem dX9_foretold_61 : decode cX9_foretold 61 = .ok (.iload_n 1, 1) := by decide +kernel
theorem dX9_foretold_62 : decode cX9_foretold 62 = .ok (.iconst 1, 1) := by decide +kernel
theorem dX9_foretold_63 : decode cX9_foretold 63 = .ok (.if_icmp .ne 27, 3) := by decide +kernel
theorem dX9_foretold_66 : decode cX9_foretold 66 = .ok (.aload_n 0, 1) := by decide +kernel
theorem dX9_foretold_67 : decode cX9_foretold 67 = .ok (.getfield 18, 3) := by decide +kernel
theorem dX9_foretold_70 : decode cX9_foretold 70 = .ok (.bipush 6, 2) := by decide +kernel
theorem dX9_foretold_72 : decode cX9_foretold 72 = .ok (.iaload, 1) := by decide +kernel
theorem dX9_foretold_73 : decode cX9_foretold 73 = .ok (.ifCond .ne 7, 3) := by decide +kernel
theorem dX9_foretold_76 : decode cX9_foretold 76 = .ok (.iconst (-1), 1) := by decide +kernel
theorem dX9_foretold_77 : decode cX9_foretold 77 = .ok (.goto 46, 3) := by decide +kernel
theorem dX9_foretold_80 : decode cX9_foretold 80 = .ok (.aload_n 0, 1) := by decide +kernel
theorem dX9_foretold_81 : decode cX9_foretold 81 = .ok (.getfield 18, 3) := by decide +kernel
theorem dX9_foretold_84 : decode cX9_foretold 84 = .ok (.bipush 20, 2) := by decide +kernel
theorem dX9_foretold_86 : decode cX9_foretold 86 = .ok (.iaload, 1) := by decide +kernel
theorem dX9_foretold_87 : decode cX9_foretold 87 = .ok (.goto 36, 3) := by decide +kernel
theorem dX9_foretold_90 : decode cX9_foretold 90 = .ok (.iload_n 1, 1) := by decide +kernel
theorem dX9_foretold_91 : decode cX9_foretold 91 = .ok (.iconst 2, 1) := by decide +kernel
theorem dX9_foretold_92 : decode cX9_foretold 92 = .ok (.if_icmp .ne 10, 3) := by decide +kernel
theorem dX9_foretold_95 : decode cX9_foretold 95 = .ok (.aload_n 0, 1) := by decide +kernel
theorem dX9_foretold_96 : decode cX9_foretold 96 = .ok (.invokevirtual 282, 3) := by decide +kernel
theorem dX9_foretold_99 : decode cX9_foretold 99 = .ok (.goto 24, 3) := by decide +kernel
theorem dX9_foretold_102 : decode cX9_foretold 102 = .ok (.iload_n 1, 1) := by decide +kernel
theorem dX9_foretold_103 : decode cX9_foretold 103 = .ok (.iconst 3, 1) := by decide +kernel
theorem dX9_foretold_104 : decode cX9_foretold 104 = .ok (.if_icmp .ne 10, 3) := by decide +kernel
theorem dX9_foretold_107 : decode cX9_foretold 107 = .ok (.aload_n 0, 1) := by decide +kernel
theorem dX9_foretold_108 : decode cX9_foretold 108 = .ok (.invokevirtual 262, 3) := by decide +kernel
theorem dX9_foretold_111 : decode cX9_foretold 111 = .ok (.goto 12, 3) := by decide +kernel
theorem dX9_foretold_114 : decode cX9_foretold 114 = .ok (.aload_n 0, 1) := by decide +kernel
theorem dX9_foretold_115 : decode cX9_foretold 115 = .ok (.getfield 18, 3) := by decide +kernel
theorem dX9_foretold_118 : decode cX9_foretold 118 = .ok (.bipush 10, 2) := by decide +kernel
theorem dX9_foretold_120 : decode cX9_foretold 120 = .ok (.iaload, 1) := by decide +kernel
theorem dX9_foretold_121 : decode cX9_foretold 121 = .ok (.iload_n 2, 1) := by decide +kernel
theorem dX9_foretold_122 : decode cX9_foretold 122 = .ok (.isub, 1) := by decide +kernel
theorem dX9_foretold_123 : decode cX9_foretold 123 = .ok (.istore 4, 2) := by decide +kernel
theorem dX9_foretold_125 : decode cX9_foretold 125 = .ok (.aload_n 0, 1) := by decide +kernel
theorem dX9_foretold_126 : decode cX9_foretold 126 = .ok (.getfield 21, 3) := by decide +kernel
theorem dX9_foretold_129 : decode cX9_foretold 129 = .ok (.aload_n 0, 1) := by decide +kernel
theorem dX9_foretold_130 : decode cX9_foretold 130 = .ok (.getfield 18, 3) := by decide +kernel
theorem dX9_foretold_133 : decode cX9_foretold 133 = .ok (.invokestatic 177, 3) := by decide +kernel
theorem dX9_foretold_136 : decode cX9_foretold 136 = .ok (.iload 4, 2) := by decide +kernel
theorem dX9_foretold_138 : decode cX9_foretold 138 = .ok (.ireturn, 1) := by decide +kernel
theorem dX9_isSafe_0 : decode cX9_isSafe 0 = .ok (.aload_n 0, 1) := by decide +kernel
theorem dX9_isSafe_1 : decode cX9_isSafe 1 = .ok (.getfield 18, 3) := by decide +kernel
theorem dX9_isSafe_4 : decode cX9_isSafe 4 = .ok (.bipush 10, 2) := by decide +kernel
theorem dX9_isSafe_6 : decode cX9_isSafe 6 = .ok (.iaload, 1) := by decide +kernel
theorem dX9_isSafe_7 : decode cX9_isSafe 7 = .ok (.istore_n 2, 1) := by decide +kernel
theorem dX9_isSafe_8 : decode cX9_isSafe 8 = .ok (.aload_n 0, 1) := by decide +kernel
theorem dX9_isSafe_9 : decode cX9_isSafe 9 = .ok (.iconst 1, 1) := by decide +kernel
theorem dX9_isSafe_10 : decode cX9_isSafe 10 = .ok (.iload_n 1, 1) := by decide +kernel
theorem dX9_isSafe_11 : decode cX9_isSafe 11 = .ok (.invokevirtual 288, 3) := by decide +kernel
theorem dX9_isSafe_14 : decode cX9_isSafe 14 = .ok (.pop, 1) := by decide +kernel
theorem dX9_isSafe_15 : decode cX9_isSafe 15 = .ok (.aload_n 0, 1) := by decide +kernel
theorem dX9_isSafe_16 : decode cX9_isSafe 16 = .ok (.invokevirtual 285, 3) := by decide +kernel
theorem dX9_isSafe_19 : decode cX9_isSafe 19 = .ok (.pop, 1) := by decide +kernel
theorem dX9_isSafe_20 : decode cX9_isSafe 20 = .ok (.aload_n 0, 1) := by decide +kernel
theorem dX9_isSafe_21 : decode cX9_isSafe 21 = .ok (.getfield 18, 3) := by decide +kernel
theorem dX9_isSafe_24 : decode cX9_isSafe 24 = .ok (.bipush 20, 2) := by decide +kernel
theorem dX9_isSafe_26 : decode cX9_isSafe 26 = .ok (.iaload, 1) := by decide +kernel
theorem dX9_isSafe_27 : decode cX9_isSafe 27 = .ok (.iconst 1, 1) := by decide +kernel
theorem dX9_isSafe_28 : decode cX9_isSafe 28 = .ok (.if_icmp .ne 18, 3) := by decide +kernel
theorem dX9_isSafe_31 : decode cX9_isSafe 31 = .ok (.aload_n 0, 1) := by decide +kernel
theorem dX9_isSafe_32 : decode cX9_isSafe 32 = .ok (.getfield 18, 3) := by decide +kernel
theorem dX9_isSafe_35 : decode cX9_isSafe 35 = .ok (.bipush 10, 2) := by decide +kernel
theorem dX9_isSafe_37 : decode cX9_isSafe 37 = .ok (.iaload, 1) := by decide +kernel
theorem dX9_isSafe_38 : decode cX9_isSafe 38 = .ok (.iload_n 2, 1) := by decide +kernel
theorem dX9_isSafe_39 : decode cX9_isSafe 39 = .ok (.if_icmp .ne 7, 3) := by decide +kernel
theorem dX9_isSafe_42 : decode cX9_isSafe 42 = .ok (.iconst 1, 1) := by decide +kernel
theorem dX9_isSafe_43 : decode cX9_isSafe 43 = .ok (.goto 4, 3) := by decide +kernel
theorem dX9_isSafe_46 : decode cX9_isSafe 46 = .ok (.iconst 0, 1) := by decide +kernel
theorem dX9_isSafe_47 : decode cX9_isSafe 47 = .ok (.ireturn, 1) := by decide +kernel
theorem dX9_mayPropose_0 : decode cX9_mayPropose 0 = .ok (.aload_n 0, 1) := by decide +kernel
theorem dX9_mayPropose_1 : decode cX9_mayPropose 1 = .ok (.aload_n 0, 1) := by decide +kernel
theorem dX9_mayPropose_2 : decode cX9_mayPropose 2 = .ok (.getfield 18, 3) := by decide +kernel
theorem dX9_mayPropose_5 : decode cX9_mayPropose 5 = .ok (.iconst 2, 1) := by decide +kernel
theorem dX9_mayPropose_6 : decode cX9_mayPropose 6 = .ok (.iaload, 1) := by decide +kernel
theorem dX9_mayPropose_7 : decode cX9_mayPropose 7 = .ok (.invokevirtual 228, 3) := by decide +kernel
theorem dX9_mayPropose_10 : decode cX9_mayPropose 10 = .ok (.ifCond .eq 14, 3) := by decide +kernel
theorem dX9_mayPropose_13 : decode cX9_mayPropose 13 = .ok (.aload_n 0, 1) := by decide +kernel
theorem dX9_mayPropose_14 : decode cX9_mayPropose 14 = .ok (.invokevirtual 231, 3) := by decide +kernel
theorem dX9_mayPropose_17 : decode cX9_mayPropose 17 = .ok (.ifCond .ne 7, 3) := by decide +kernel
theorem dX9_mayPropose_20 : decode cX9_mayPropose 20 = .ok (.iconst 1, 1) := by decide +kernel
theorem dX9_mayPropose_21 : decode cX9_mayPropose 21 = .ok (.goto 4, 3) := by decide +kernel
theorem dX9_mayPropose_24 : decode cX9_mayPropose 24 = .ok (.iconst 0, 1) := by decide +kernel
theorem dX9_mayPropose_25 : decode cX9_mayPropose 25 = .ok (.ireturn, 1) := by decide +kernel
theorem dX9_safest_0 : decode cX9_safest 0 = .ok (.aload_n 0, 1) := by decide +kernel
theorem dX9_safest_1 : decode cX9_safest 1 = .ok (.iconst 0, 1) := by decide +kernel
theorem dX9_safest_2 : decode cX9_safest 2 = .ok (.putfield 40, 3) := by decide +kernel
theorem dX9_safest_5 : decode cX9_safest 5 = .ok (.aload_n 0, 1) := by decide +kernel
theorem dX9_safest_6 : decode cX9_safest 6 = .ok (.invokevirtual 291, 3) := by decide +kernel
theorem dX9_safest_9 : decode cX9_safest 9 = .ok (.ifCond .ne 5, 3) := by decide +kernel
theorem dX9_safest_12 : decode cX9_safest 12 = .ok (.iconst (-1), 1) := by decide +kernel
theorem dX9_safest_13 : decode cX9_safest 13 = .ok (.ireturn, 1) := by decide +kernel
theorem dX9_safest_14 : decode cX9_safest 14 = .ok (.aload_n 0, 1) := by decide +kernel
theorem dX9_safest_15 : decode cX9_safest 15 = .ok (.getfield 18, 3) := by decide +kernel
theorem dX9_safest_18 : decode cX9_safest 18 = .ok (.aload_n 0, 1) := by decide +kernel
theorem dX9_safest_19 : decode cX9_safest 19 = .ok (.getfield 21, 3) := by decide +kernel
theorem dX9_safest_22 : decode cX9_safest 22 = .ok (.invokestatic 177, 3) := by decide +kernel
theorem dX9_safest_25 : decode cX9_safest 25 = .ok (.iconst 1, 1) := by decide +kernel
theorem dX9_safest_26 : decode cX9_safest 26 = .ok (.istore_n 1, 1) := by decide +kernel
theorem dX9_safest_27 : decode cX9_safest 27 = .ok (.iload_n 1, 1) := by decide +kernel
theorem dX9_safest_28 : decode cX9_safest 28 = .ok (.bipush 60, 2) := by decide +kernel
theorem dX9_safest_30 : decode cX9_safest 30 = .ok (.if_icmp .gt 32, 3) := by decide +kernel
theorem dX9_safest_33 : decode cX9_safest 33 = .ok (.aload_n 0, 1) := by decide +kernel
theorem dX9_safest_34 : decode cX9_safest 34 = .ok (.iload_n 1, 1) := by decide +kernel
theorem dX9_safest_35 : decode cX9_safest 35 = .ok (.invokevirtual 294, 3) := by decide +kernel
theorem dX9_safest_38 : decode cX9_safest 38 = .ok (.istore_n 2, 1) := by decide +kernel
theorem dX9_safest_39 : decode cX9_safest 39 = .ok (.aload_n 0, 1) := by decide +kernel
theorem dX9_safest_40 : decode cX9_safest 40 = .ok (.getfield 21, 3) := by decide +kernel
theorem dX9_safest_43 : decode cX9_safest 43 = .ok (.aload_n 0, 1) := by decide +kernel
theorem dX9_safest_44 : decode cX9_safest 44 = .ok (.getfield 18, 3) := by decide +kernel
theorem dX9_safest_47 : decode cX9_safest 47 = .ok (.invokestatic 177, 3) := by decide +kernel
theorem dX9_safest_50 : decode cX9_safest 50 = .ok (.iload_n 2, 1) := by decide +kernel
theorem dX9_safest_51 : decode cX9_safest 51 = .ok (.ifCond .eq 5, 3) := by decide +kernel
theorem dX9_safest_54 : decode cX9_safest 54 = .ok (.iload_n 1, 1) := by decide +kernel
theorem dX9_safest_55 : decode cX9_safest 55 = .ok (.ireturn, 1) := by decide +kernel
theorem dX9_safest_56 : decode cX9_safest 56 = .ok (.iinc 1 1, 3) := by decide +kernel
theorem dX9_safest_59 : decode cX9_safest 59 = .ok (.goto (-32), 3) := by decide +kernel
theorem dX9_safest_62 : decode cX9_safest 62 = .ok (.iconst (-1), 1) := by decide +kernel
theorem dX9_safest_63 : decode cX9_safest 63 = .ok (.ireturn, 1) := by decide +kernel
theorem dX9_meanError_0 : decode cX9_meanError 0 = .ok (.aload_n 0, 1) := by decide +kernel
theorem dX9_meanError_1 : decode cX9_meanError 1 = .ok (.iconst 0, 1) := by decide +kernel
theorem dX9_meanError_2 : decode cX9_meanError 2 = .ok (.putfield 40, 3) := by decide +kernel
theorem dX9_meanError_5 : decode cX9_meanError 5 = .ok (.iconst 0, 1) := by decide +kernel
theorem dX9_meanError_6 : decode cX9_meanError 6 = .ok (.istore_n 1, 1) := by decide +kernel
theorem dX9_meanError_7 : decode cX9_meanError 7 = .ok (.aload_n 0, 1) := by decide +kernel
theorem dX9_meanError_8 : decode cX9_meanError 8 = .ok (.invokevirtual 200, 3) := by decide +kernel
theorem dX9_meanError_11 : decode cX9_meanError 11 = .ok (.istore_n 2, 1) := by decide +kernel
theorem dX9_meanError_12 : decode cX9_meanError 12 = .ok (.iconst 0, 1) := by decide +kernel
theorem dX9_meanError_13 : decode cX9_meanError 13 = .ok (.istore_n 3, 1) := by decide +kernel
theorem dX9_meanError_14 : decode cX9_meanError 14 = .ok (.iload_n 3, 1) := by decide +kernel
theorem dX9_meanError_15 : decode cX9_meanError 15 = .ok (.aload_n 0, 1) := by decide +kernel
theorem dX9_meanError_16 : decode cX9_meanError 16 = .ok (.getfield 18, 3) := by decide +kernel
theorem dX9_meanError_19 : decode cX9_meanError 19 = .ok (.iconst 0, 1) := by decide +kernel
theorem dX9_meanError_20 : decode cX9_meanError 20 = .ok (.iaload, 1) := by decide +kernel
theorem dX9_meanError_21 : decode cX9_meanError 21 = .ok (.if_icmp .ge 34, 3) := by decide +kernel
theorem dX9_meanError_24 : decode cX9_meanError 24 = .ok (.iload_n 1, 1) := by decide +kernel
theorem dX9_meanError_25 : decode cX9_meanError 25 = .ok (.aload_n 0, 1) := by decide +kernel
theorem dX9_meanError_26 : decode cX9_meanError 26 = .ok (.iload_n 3, 1) := by decide +kernel
theorem dX9_meanError_27 : decode cX9_meanError 27 = .ok (.invokevirtual 228, 3) := by decide +kernel
theorem dX9_meanError_30 : decode cX9_meanError 30 = .ok (.ifCond .eq 16, 3) := by decide +kernel
theorem dX9_meanError_33 : decode cX9_meanError 33 = .ok (.aload_n 0, 1) := by decide +kernel
theorem dX9_meanError_34 : decode cX9_meanError 34 = .ok (.iload_n 3, 1) := by decide +kernel
theorem dX9_meanError_35 : decode cX9_meanError 35 = .ok (.bipush 9, 2) := by decide +kernel
theorem dX9_meanError_37 : decode cX9_meanError 37 = .ok (.invokevirtual 273, 3) := by decide +kernel
theorem dX9_meanError_40 : decode cX9_meanError 40 = .ok (.invokestatic 297, 3) := by decide +kernel
theorem dX9_meanError_43 : decode cX9_meanError 43 = .ok (.goto 4, 3) := by decide +kernel
theorem dX9_meanError_46 : decode cX9_meanError 46 = .ok (.iconst 0, 1) := by decide +kernel
theorem dX9_meanError_47 : decode cX9_meanError 47 = .ok (.iadd, 1) := by decide +kernel
theorem dX9_meanError_48 : decode cX9_meanError 48 = .ok (.istore_n 1, 1) := by decide +kernel
theorem dX9_meanError_49 : decode cX9_meanError 49 = .ok (.iinc 3 1, 3) := by decide +kernel
theorem dX9_meanError_52 : decode cX9_meanError 52 = .ok (.goto (-38), 3) := by decide +kernel
theorem dX9_meanError_55 : decode cX9_meanError 55 = .ok (.iload_n 2, 1) := by decide +kernel
theorem dX9_meanError_56 : decode cX9_meanError 56 = .ok (.ifCond .ne 7, 3) := by decide +kernel
theorem dX9_meanError_59 : decode cX9_meanError 59 = .ok (.dconst 0, 1) := by decide +kernel
theorem dX9_meanError_60 : decode cX9_meanError 60 = .ok (.goto 8, 3) := by decide +kernel
theorem dX9_meanError_63 : decode cX9_meanError 63 = .ok (.iload_n 1, 1) := by decide +kernel
theorem dX9_meanError_64 : decode cX9_meanError 64 = .ok (.i2d, 1) := by decide +kernel
theorem dX9_meanError_65 : decode cX9_meanError 65 = .ok (.iload_n 2, 1) := by decide +kernel
theorem dX9_meanError_66 : decode cX9_meanError 66 = .ok (.i2d, 1) := by decide +kernel
theorem dX9_meanError_67 : decode cX9_meanError 67 = .ok (.ddiv, 1) := by decide +kernel
theorem dX9_meanError_68 : decode cX9_meanError 68 = .ok (.dreturn, 1) := by decide +kernel
theorem dX9_remember_0 : decode cX9_remember 0 = .ok (.aload_n 0, 1) := by decide +kernel
theorem dX9_remember_1 : decode cX9_remember 1 = .ok (.getfield 302, 3) := by decide +kernel
theorem dX9_remember_4 : decode cX9_remember 4 = .ok (.bipush 8, 2) := by decide +kernel
theorem dX9_remember_6 : decode cX9_remember 6 = .ok (.if_icmp .ne 44, 3) := by decide +kernel
theorem dX9_remember_9 : decode cX9_remember 9 = .ok (.iconst 1, 1) := by decide +kernel
theorem dX9_remember_10 : decode cX9_remember 10 = .ok (.istore_n 1, 1) := by decide +kernel
theorem dX9_remember_11 : decode cX9_remember 11 = .ok (.iload_n 1, 1) := by decide +kernel
theorem dX9_remember_12 : decode cX9_remember 12 = .ok (.bipush 8, 2) := by decide +kernel
theorem dX9_remember_14 : decode cX9_remember 14 = .ok (.if_icmp .ge 26, 3) := by decide +kernel
theorem dX9_remember_17 : decode cX9_remember 17 = .ok (.aload_n 0, 1) := by decide +kernel
theorem dX9_remember_18 : decode cX9_remember 18 = .ok (.getfield 29, 3) := by decide +kernel
theorem dX9_remember_21 : decode cX9_remember 21 = .ok (.iload_n 1, 1) := by decide +kernel
theorem dX9_remember_22 : decode cX9_remember 22 = .ok (.aaload, 1) := by decide +kernel
theorem dX9_remember_23 : decode cX9_remember 23 = .ok (.aload_n 0, 1) := by decide +kernel
theorem dX9_remember_24 : decode cX9_remember 24 = .ok (.getfield 29, 3) := by decide +kernel
theorem dX9_remember_27 : decode cX9_remember 27 = .ok (.iload_n 1, 1) := by decide +kernel
theorem dX9_remember_28 : decode cX9_remember 28 = .ok (.iconst 1, 1) := by decide +kernel
theorem dX9_remember_29 : decode cX9_remember 29 = .ok (.isub, 1) := by decide +kernel
theorem dX9_remember_30 : decode cX9_remember 30 = .ok (.aaload, 1) := by decide +kernel
theorem dX9_remember_31 : decode cX9_remember 31 = .ok (.invokestatic 177, 3) := by decide +kernel
theorem dX9_remember_34 : decode cX9_remember 34 = .ok (.iinc 1 1, 3) := by decide +kernel
theorem dX9_remember_37 : decode cX9_remember 37 = .ok (.goto (-26), 3) := by decide +kernel
theorem dX9_remember_40 : decode cX9_remember 40 = .ok (.aload_n 0, 1) := by decide +kernel
theorem dX9_remember_41 : decode cX9_remember 41 = .ok (.dup, 1) := by decide +kernel
theorem dX9_remember_42 : decode cX9_remember 42 = .ok (.getfield 302, 3) := by decide +kernel
theorem dX9_remember_45 : decode cX9_remember 45 = .ok (.iconst 1, 1) := by decide +kernel
theorem dX9_remember_46 : decode cX9_remember 46 = .ok (.isub, 1) := by decide +kernel
theorem dX9_remember_47 : decode cX9_remember 47 = .ok (.putfield 302, 3) := by decide +kernel
theorem dX9_remember_50 : decode cX9_remember 50 = .ok (.aload_n 0, 1) := by decide +kernel
theorem dX9_remember_51 : decode cX9_remember 51 = .ok (.getfield 18, 3) := by decide +kernel
theorem dX9_remember_54 : decode cX9_remember 54 = .ok (.aload_n 0, 1) := by decide +kernel
theorem dX9_remember_55 : decode cX9_remember 55 = .ok (.getfield 29, 3) := by decide +kernel
theorem dX9_remember_58 : decode cX9_remember 58 = .ok (.aload_n 0, 1) := by decide +kernel
theorem dX9_remember_59 : decode cX9_remember 59 = .ok (.getfield 302, 3) := by decide +kernel
theorem dX9_remember_62 : decode cX9_remember 62 = .ok (.aaload, 1) := by decide +kernel
theorem dX9_remember_63 : decode cX9_remember 63 = .ok (.invokestatic 177, 3) := by decide +kernel
theorem dX9_remember_66 : decode cX9_remember 66 = .ok (.aload_n 0, 1) := by decide +kernel
theorem dX9_remember_67 : decode cX9_remember 67 = .ok (.dup, 1) := by decide +kernel
theorem dX9_remember_68 : decode cX9_remember 68 = .ok (.getfield 302, 3) := by decide +kernel
theorem dX9_remember_71 : decode cX9_remember 71 = .ok (.iconst 1, 1) := by decide +kernel
theorem dX9_remember_72 : decode cX9_remember 72 = .ok (.iadd, 1) := by decide +kernel
theorem dX9_remember_73 : decode cX9_remember 73 = .ok (.putfield 302, 3) := by decide +kernel
theorem dX9_remember_76 : decode cX9_remember 76 = .ok (.return_, 1) := by decide +kernel
theorem dX9_propose_0 : decode cX9_propose 0 = .ok (.aload_n 0, 1) := by decide +kernel
theorem dX9_propose_1 : decode cX9_propose 1 = .ok (.iconst 0, 1) := by decide +kernel
theorem dX9_propose_2 : decode cX9_propose 2 = .ok (.putfield 40, 3) := by decide +kernel
theorem dX9_propose_5 : decode cX9_propose 5 = .ok (.aload_n 0, 1) := by decide +kernel
theorem dX9_propose_6 : decode cX9_propose 6 = .ok (.iload_n 1, 1) := by decide +kernel
theorem dX9_propose_7 : decode cX9_propose 7 = .ok (.iconst 0, 1) := by decide +kernel
theorem dX9_propose_8 : decode cX9_propose 8 = .ok (.bipush 99, 2) := by decide +kernel
theorem dX9_propose_10 : decode cX9_propose 10 = .ok (.invokestatic 65, 3) := by decide +kernel
theorem dX9_propose_13 : decode cX9_propose 13 = .ok (.ifCond .ne 7, 3) := by decide +kernel
theorem dX9_propose_16 : decode cX9_propose 16 = .ok (.iconst 1, 1) := by decide +kernel
theorem dX9_propose_17 : decode cX9_propose 17 = .ok (.goto 4, 3) := by decide +kernel
theorem dX9_propose_20 : decode cX9_propose 20 = .ok (.iconst 0, 1) := by decide +kernel
theorem dX9_propose_21 : decode cX9_propose 21 = .ok (.iconst 1, 1) := by decide +kernel
theorem dX9_propose_22 : decode cX9_propose 22 = .ok (.invokevirtual 167, 3) := by decide +kernel
theorem dX9_propose_25 : decode cX9_propose 25 = .ok (.ifCond .ne 23, 3) := by decide +kernel
theorem dX9_propose_28 : decode cX9_propose 28 = .ok (.aload_n 0, 1) := by decide +kernel
theorem dX9_propose_29 : decode cX9_propose 29 = .ok (.aload_n 0, 1) := by decide +kernel
theorem dX9_propose_30 : decode cX9_propose 30 = .ok (.invokevirtual 291, 3) := by decide +kernel
theorem dX9_propose_33 : decode cX9_propose 33 = .ok (.ifCond .ne 7, 3) := by decide +kernel
theorem dX9_propose_36 : decode cX9_propose 36 = .ok (.iconst 1, 1) := by decide +kernel
theorem dX9_propose_37 : decode cX9_propose 37 = .ok (.goto 4, 3) := by decide +kernel
theorem dX9_propose_40 : decode cX9_propose 40 = .ok (.iconst 0, 1) := by decide +kernel
theorem dX9_propose_41 : decode cX9_propose 41 = .ok (.iconst 2, 1) := by decide +kernel
theorem dX9_propose_42 : decode cX9_propose 42 = .ok (.invokevirtual 167, 3) := by decide +kernel
theorem dX9_propose_45 : decode cX9_propose 45 = .ok (.ifCond .eq 5, 3) := by decide +kernel
theorem dX9_propose_48 : decode cX9_propose 48 = .ok (.iconst 0, 1) := by decide +kernel
theorem dX9_propose_49 : decode cX9_propose 49 = .ok (.ireturn, 1) := by decide +kernel
theorem dX9_propose_50 : decode cX9_propose 50 = .ok (.aload_n 0, 1) := by decide +kernel
theorem dX9_propose_51 : decode cX9_propose 51 = .ok (.invokevirtual 174, 3) := by decide +kernel
theorem dX9_propose_54 : decode cX9_propose 54 = .ok (.aload_n 0, 1) := by decide +kernel
theorem dX9_propose_55 : decode cX9_propose 55 = .ok (.iload_n 1, 1) := by decide +kernel
theorem dX9_propose_56 : decode cX9_propose 56 = .ok (.aload_n 0, 1) := by decide +kernel
theorem dX9_propose_57 : decode cX9_propose 57 = .ok (.iload_n 1, 1) := by decide +kernel
theorem dX9_propose_58 : decode cX9_propose 58 = .ok (.invokevirtual 265, 3) := by decide +kernel
theorem dX9_propose_61 : decode cX9_propose 61 = .ok (.invokevirtual 288, 3) := by decide +kernel
theorem dX9_propose_64 : decode cX9_propose 64 = .ok (.ireturn, 1) := by decide +kernel
theorem dX9_ask_0 : decode cX9_ask 0 = .ok (.aload_n 0, 1) := by decide +kernel
theorem dX9_ask_1 : decode cX9_ask 1 = .ok (.iconst 0, 1) := by decide +kernel
theorem dX9_ask_2 : decode cX9_ask 2 = .ok (.putfield 40, 3) := by decide +kernel
theorem dX9_ask_5 : decode cX9_ask 5 = .ok (.aload_n 0, 1) := by decide +kernel
theorem dX9_ask_6 : decode cX9_ask 6 = .ok (.iload_n 1, 1) := by decide +kernel
theorem dX9_ask_7 : decode cX9_ask 7 = .ok (.invokevirtual 270, 3) := by decide +kernel
theorem dX9_ask_10 : decode cX9_ask 10 = .ok (.ifCond .ne 34, 3) := by decide +kernel
theorem dX9_ask_13 : decode cX9_ask 13 = .ok (.aload_n 0, 1) := by decide +kernel
theorem dX9_ask_14 : decode cX9_ask 14 = .ok (.aload_n 0, 1) := by decide +kernel
theorem dX9_ask_15 : decode cX9_ask 15 = .ok (.iload_n 1, 1) := by decide +kernel
theorem dX9_ask_16 : decode cX9_ask 16 = .ok (.invokevirtual 228, 3) := by decide +kernel
theorem dX9_ask_19 : decode cX9_ask 19 = .ok (.ifCond .eq 13, 3) := by decide +kernel
theorem dX9_ask_22 : decode cX9_ask 22 = .ok (.iload_n 1, 1) := by decide +kernel
theorem dX9_ask_23 : decode cX9_ask 23 = .ok (.aload_n 0, 1) := by decide +kernel
theorem dX9_ask_24 : decode cX9_ask 24 = .ok (.getfield 18, 3) := by decide +kernel
theorem dX9_ask_27 : decode cX9_ask 27 = .ok (.iconst 2, 1) := by decide +kernel
theorem dX9_ask_28 : decode cX9_ask 28 = .ok (.iaload, 1) := by decide +kernel
theorem dX9_ask_29 : decode cX9_ask 29 = .ok (.if_icmp .ne 7, 3) := by decide +kernel
theorem dX9_ask_32 : decode cX9_ask 32 = .ok (.iconst 1, 1) := by decide +kernel
theorem dX9_ask_33 : decode cX9_ask 33 = .ok (.goto 4, 3) := by decide +kernel
theorem dX9_ask_36 : decode cX9_ask 36 = .ok (.iconst 0, 1) := by decide +kernel
theorem dX9_ask_37 : decode cX9_ask 37 = .ok (.iconst 2, 1) := by decide +kernel
theorem dX9_ask_38 : decode cX9_ask 38 = .ok (.invokevirtual 167, 3) := by decide +kernel
theorem dX9_ask_41 : decode cX9_ask 41 = .ok (.ifCond .eq 5, 3) := by decide +kernel
theorem dX9_ask_44 : decode cX9_ask 44 = .ok (.iconst 0, 1) := by decide +kernel
theorem dX9_ask_45 : decode cX9_ask 45 = .ok (.ireturn, 1) := by decide +kernel
theorem dX9_ask_46 : decode cX9_ask 46 = .ok (.aload_n 0, 1) := by decide +kernel
theorem dX9_ask_47 : decode cX9_ask 47 = .ok (.invokevirtual 174, 3) := by decide +kernel
theorem dX9_ask_50 : decode cX9_ask 50 = .ok (.aload_n 0, 1) := by decide +kernel
theorem dX9_ask_51 : decode cX9_ask 51 = .ok (.iconst 0, 1) := by decide +kernel
theorem dX9_ask_52 : decode cX9_ask 52 = .ok (.iload_n 1, 1) := by decide +kernel
theorem dX9_ask_53 : decode cX9_ask 53 = .ok (.aload_n 0, 1) := by decide +kernel
theorem dX9_ask_54 : decode cX9_ask 54 = .ok (.getfield 18, 3) := by decide +kernel
theorem dX9_ask_57 : decode cX9_ask 57 = .ok (.iconst 2, 1) := by decide +kernel
theorem dX9_ask_58 : decode cX9_ask 58 = .ok (.iaload, 1) := by decide +kernel
theorem dX9_ask_59 : decode cX9_ask 59 = .ok (.iconst (-1), 1) := by decide +kernel
theorem dX9_ask_60 : decode cX9_ask 60 = .ok (.aload_n 0, 1) := by decide +kernel
theorem dX9_ask_61 : decode cX9_ask 61 = .ok (.iload_n 1, 1) := by decide +kernel
theorem dX9_ask_62 : decode cX9_ask 62 = .ok (.invokevirtual 184, 3) := by decide +kernel
theorem dX9_ask_65 : decode cX9_ask 65 = .ok (.iconst 0, 1) := by decide +kernel
theorem dX9_ask_66 : decode cX9_ask 66 = .ok (.invokevirtual 213, 3) := by decide +kernel
theorem dX9_ask_69 : decode cX9_ask 69 = .ok (.ireturn, 1) := by decide +kernel
theorem dX9_pass_0 : decode cX9_pass 0 = .ok (.aload_n 0, 1) := by decide +kernel
theorem dX9_pass_1 : decode cX9_pass 1 = .ok (.iconst 0, 1) := by decide +kernel
theorem dX9_pass_2 : decode cX9_pass 2 = .ok (.putfield 40, 3) := by decide +kernel
theorem dX9_pass_5 : decode cX9_pass 5 = .ok (.aload_n 0, 1) := by decide +kernel
theorem dX9_pass_6 : decode cX9_pass 6 = .ok (.iload_n 1, 1) := by decide +kernel
theorem dX9_pass_7 : decode cX9_pass 7 = .ok (.iconst 1, 1) := by decide +kernel
theorem dX9_pass_8 : decode cX9_pass 8 = .ok (.bipush 50, 2) := by decide +kernel
theorem dX9_pass_10 : decode cX9_pass 10 = .ok (.invokestatic 65, 3) := by decide +kernel
theorem dX9_pass_13 : decode cX9_pass 13 = .ok (.ifCond .ne 7, 3) := by decide +kernel
theorem dX9_pass_16 : decode cX9_pass 16 = .ok (.iconst 1, 1) := by decide +kernel
theorem dX9_pass_17 : decode cX9_pass 17 = .ok (.goto 4, 3) := by decide +kernel
theorem dX9_pass_20 : decode cX9_pass 20 = .ok (.iconst 0, 1) := by decide +kernel
theorem dX9_pass_21 : decode cX9_pass 21 = .ok (.iconst 1, 1) := by decide +kernel
theorem dX9_pass_22 : decode cX9_pass 22 = .ok (.invokevirtual 167, 3) := by decide +kernel
theorem dX9_pass_25 : decode cX9_pass 25 = .ok (.ifCond .eq 5, 3) := by decide +kernel
theorem dX9_pass_28 : decode cX9_pass 28 = .ok (.iconst 0, 1) := by decide +kernel
theorem dX9_pass_29 : decode cX9_pass 29 = .ok (.ireturn, 1) := by decide +kernel
theorem dX9_pass_30 : decode cX9_pass 30 = .ok (.aload_n 0, 1) := by decide +kernel
theorem dX9_pass_31 : decode cX9_pass 31 = .ok (.invokevirtual 174, 3) := by decide +kernel
theorem dX9_pass_34 : decode cX9_pass 34 = .ok (.aload_n 0, 1) := by decide +kernel
theorem dX9_pass_35 : decode cX9_pass 35 = .ok (.getfield 18, 3) := by decide +kernel
theorem dX9_pass_38 : decode cX9_pass 38 = .ok (.bipush 9, 2) := by decide +kernel
theorem dX9_pass_40 : decode cX9_pass 40 = .ok (.iaload, 1) := by decide +kernel
theorem dX9_pass_41 : decode cX9_pass 41 = .ok (.istore_n 2, 1) := by decide +kernel
theorem dX9_pass_42 : decode cX9_pass 42 = .ok (.iconst 0, 1) := by decide +kernel
theorem dX9_pass_43 : decode cX9_pass 43 = .ok (.istore_n 3, 1) := by decide +kernel
theorem dX9_pass_44 : decode cX9_pass 44 = .ok (.iload_n 3, 1) := by decide +kernel
theorem dX9_pass_45 : decode cX9_pass 45 = .ok (.iload_n 1, 1) := by decide +kernel
theorem dX9_pass_46 : decode cX9_pass 46 = .ok (.if_icmp .ge 13, 3) := by decide +kernel
theorem dX9_pass_49 : decode cX9_pass 49 = .ok (.aload_n 0, 1) := by decide +kernel
theorem dX9_pass_50 : decode cX9_pass 50 = .ok (.invokevirtual 259, 3) := by decide +kernel
theorem dX9_pass_53 : decode cX9_pass 53 = .ok (.iinc 3 1, 3) := by decide +kernel
theorem dX9_pass_56 : decode cX9_pass 56 = .ok (.goto (-12), 3) := by decide +kernel
theorem dX9_pass_59 : decode cX9_pass 59 = .ok (.aload_n 0, 1) := by decide +kernel
theorem dX9_pass_60 : decode cX9_pass 60 = .ok (.getfield 18, 3) := by decide +kernel
theorem dX9_pass_63 : decode cX9_pass 63 = .ok (.bipush 9, 2) := by decide +kernel
theorem dX9_pass_65 : decode cX9_pass 65 = .ok (.iaload, 1) := by decide +kernel
theorem dX9_pass_66 : decode cX9_pass 66 = .ok (.iload_n 2, 1) := by decide +kernel
theorem dX9_pass_67 : decode cX9_pass 67 = .ok (.isub, 1) := by decide +kernel
theorem dX9_pass_68 : decode cX9_pass 68 = .ok (.ireturn, 1) := by decide +kernel
theorem dX9_power_0 : decode cX9_power 0 = .ok (.aload_n 0, 1) := by decide +kernel
theorem dX9_power_1 : decode cX9_power 1 = .ok (.iconst 0, 1) := by decide +kernel
theorem dX9_power_2 : decode cX9_power 2 = .ok (.putfield 40, 3) := by decide +kernel
theorem dX9_power_5 : decode cX9_power 5 = .ok (.aload_n 0, 1) := by decide +kernel
theorem dX9_power_6 : decode cX9_power 6 = .ok (.iload_n 1, 1) := by decide +kernel
theorem dX9_power_7 : decode cX9_power 7 = .ok (.invokevirtual 270, 3) := by decide +kernel
theorem dX9_power_10 : decode cX9_power 10 = .ok (.ifCond .eq 5, 3) := by decide +kernel
theorem dX9_power_13 : decode cX9_power 13 = .ok (.iconst 0, 1) := by decide +kernel
theorem dX9_power_14 : decode cX9_power 14 = .ok (.ireturn, 1) := by decide +kernel
theorem dX9_power_15 : decode cX9_power 15 = .ok (.aload_n 0, 1) := by decide +kernel
theorem dX9_power_16 : decode cX9_power 16 = .ok (.invokevirtual 174, 3) := by decide +kernel
theorem dX9_power_19 : decode cX9_power 19 = .ok (.aload_n 0, 1) := by decide +kernel
theorem dX9_power_20 : decode cX9_power 20 = .ok (.iload_n 1, 1) := by decide +kernel
theorem dX9_power_21 : decode cX9_power 21 = .ok (.invokevirtual 228, 3) := by decide +kernel
theorem dX9_power_24 : decode cX9_power 24 = .ok (.istore_n 3, 1) := by decide +kernel
theorem dX9_power_25 : decode cX9_power 25 = .ok (.aload_n 0, 1) := by decide +kernel
theorem dX9_power_26 : decode cX9_power 26 = .ok (.iload_n 1, 1) := by decide +kernel
theorem dX9_power_27 : decode cX9_power 27 = .ok (.iconst 0, 1) := by decide +kernel
theorem dX9_power_28 : decode cX9_power 28 = .ok (.iload_n 2, 1) := by decide +kernel
theorem dX9_power_29 : decode cX9_power 29 = .ok (.ifCond .eq 7, 3) := by decide +kernel
theorem dX9_power_32 : decode cX9_power 32 = .ok (.iconst 1, 1) := by decide +kernel
theorem dX9_power_33 : decode cX9_power 33 = .ok (.goto 4, 3) := by decide +kernel
theorem dX9_power_36 : decode cX9_power 36 = .ok (.iconst 0, 1) := by decide +kernel
theorem dX9_power_37 : decode cX9_power 37 = .ok (.invokevirtual 217, 3) := by decide +kernel
theorem dX9_power_40 : decode cX9_power 40 = .ok (.iload_n 2, 1) := by decide +kernel
theorem dX9_power_41 : decode cX9_power 41 = .ok (.ifCond .ne 8, 3) := by decide +kernel
theorem dX9_power_44 : decode cX9_power 44 = .ok (.aload_n 0, 1) := by decide +kernel
theorem dX9_power_45 : decode cX9_power 45 = .ok (.iload_n 1, 1) := by decide +kernel
theorem dX9_power_46 : decode cX9_power 46 = .ok (.invokevirtual 237, 3) := by decide +kernel
theorem dX9_power_49 : decode cX9_power 49 = .ok (.iload_n 3, 1) := by decide +kernel
theorem dX9_power_50 : decode cX9_power 50 = .ok (.ireturn, 1) := by decide +kernel
theorem dX9_cut_0 : decode cX9_cut 0 = .ok (.aload_n 0, 1) := by decide +kernel
theorem dX9_cut_1 : decode cX9_cut 1 = .ok (.iconst 0, 1) := by decide +kernel
theorem dX9_cut_2 : decode cX9_cut 2 = .ok (.putfield 40, 3) := by decide +kernel
theorem dX9_cut_5 : decode cX9_cut 5 = .ok (.aload_n 0, 1) := by decide +kernel
theorem dX9_cut_6 : decode cX9_cut 6 = .ok (.iload_n 1, 1) := by decide +kernel
theorem dX9_cut_7 : decode cX9_cut 7 = .ok (.invokevirtual 270, 3) := by decide +kernel
theorem dX9_cut_10 : decode cX9_cut 10 = .ok (.ifCond .ne 37, 3) := by decide +kernel
theorem dX9_cut_13 : decode cX9_cut 13 = .ok (.aload_n 0, 1) := by decide +kernel
theorem dX9_cut_14 : decode cX9_cut 14 = .ok (.iload_n 2, 1) := by decide +kernel
theorem dX9_cut_15 : decode cX9_cut 15 = .ok (.invokevirtual 270, 3) := by decide +kernel
theorem dX9_cut_18 : decode cX9_cut 18 = .ok (.ifCond .ne 29, 3) := by decide +kernel
theorem dX9_cut_21 : decode cX9_cut 21 = .ok (.aload_n 0, 1) := by decide +kernel
theorem dX9_cut_22 : decode cX9_cut 22 = .ok (.aload_n 0, 1) := by decide +kernel
theorem dX9_cut_23 : decode cX9_cut 23 = .ok (.getfield 18, 3) := by decide +kernel
theorem dX9_cut_26 : decode cX9_cut 26 = .ok (.iload_n 1, 1) := by decide +kernel
theorem dX9_cut_27 : decode cX9_cut 27 = .ok (.iload_n 2, 1) := by decide +kernel
theorem dX9_cut_28 : decode cX9_cut 28 = .ok (.invokestatic 145, 3) := by decide +kernel
theorem dX9_cut_31 : decode cX9_cut 31 = .ok (.iaload, 1) := by decide +kernel
theorem dX9_cut_32 : decode cX9_cut 32 = .ok (.ifCond .ne 7, 3) := by decide +kernel
theorem dX9_cut_35 : decode cX9_cut 35 = .ok (.iconst 1, 1) := by decide +kernel
theorem dX9_cut_36 : decode cX9_cut 36 = .ok (.goto 4, 3) := by decide +kernel
theorem dX9_cut_39 : decode cX9_cut 39 = .ok (.iconst 0, 1) := by decide +kernel
theorem dX9_cut_40 : decode cX9_cut 40 = .ok (.iconst 2, 1) := by decide +kernel
theorem dX9_cut_41 : decode cX9_cut 41 = .ok (.invokevirtual 167, 3) := by decide +kernel
theorem dX9_cut_44 : decode cX9_cut 44 = .ok (.ifCond .eq 5, 3) := by decide +kernel
theorem dX9_cut_47 : decode cX9_cut 47 = .ok (.iconst 0, 1) := by decide +kernel
theorem dX9_cut_48 : decode cX9_cut 48 = .ok (.ireturn, 1) := by decide +kernel
theorem dX9_cut_49 : decode cX9_cut 49 = .ok (.aload_n 0, 1) := by decide +kernel
theorem dX9_cut_50 : decode cX9_cut 50 = .ok (.invokevirtual 174, 3) := by decide +kernel
theorem dX9_cut_53 : decode cX9_cut 53 = .ok (.iload_n 1, 1) := by decide +kernel
theorem dX9_cut_54 : decode cX9_cut 54 = .ok (.iload_n 2, 1) := by decide +kernel
theorem dX9_cut_55 : decode cX9_cut 55 = .ok (.invokestatic 145, 3) := by decide +kernel
theorem dX9_cut_58 : decode cX9_cut 58 = .ok (.istore 4, 2) := by decide +kernel
theorem dX9_cut_60 : decode cX9_cut 60 = .ok (.aload_n 0, 1) := by decide +kernel
theorem dX9_cut_61 : decode cX9_cut 61 = .ok (.getfield 18, 3) := by decide +kernel
theorem dX9_cut_64 : decode cX9_cut 64 = .ok (.iload 4, 2) := by decide +kernel
theorem dX9_cut_66 : decode cX9_cut 66 = .ok (.iaload, 1) := by decide +kernel
theorem dX9_cut_67 : decode cX9_cut 67 = .ok (.ifCond .ge 7, 3) := by decide +kernel
theorem dX9_cut_70 : decode cX9_cut 70 = .ok (.iconst 1, 1) := by decide +kernel
theorem dX9_cut_71 : decode cX9_cut 71 = .ok (.goto 4, 3) := by decide +kernel
theorem dX9_cut_74 : decode cX9_cut 74 = .ok (.iconst 0, 1) := by decide +kernel
theorem dX9_cut_75 : decode cX9_cut 75 = .ok (.istore 5, 2) := by decide +kernel
theorem dX9_cut_77 : decode cX9_cut 77 = .ok (.aload_n 0, 1) := by decide +kernel
theorem dX9_cut_78 : decode cX9_cut 78 = .ok (.getfield 18, 3) := by decide +kernel
theorem dX9_cut_81 : decode cX9_cut 81 = .ok (.iload 4, 2) := by decide +kernel
theorem dX9_cut_83 : decode cX9_cut 83 = .ok (.iload_n 3, 1) := by decide +kernel
theorem dX9_cut_84 : decode cX9_cut 84 = .ok (.ifCond .eq 17, 3) := by decide +kernel
theorem dX9_cut_87 : decode cX9_cut 87 = .ok (.aload_n 0, 1) := by decide +kernel
theorem dX9_cut_88 : decode cX9_cut 88 = .ok (.getfield 18, 3) := by decide +kernel
theorem dX9_cut_91 : decode cX9_cut 91 = .ok (.iload 4, 2) := by decide +kernel
theorem dX9_cut_93 : decode cX9_cut 93 = .ok (.iaload, 1) := by decide +kernel
theorem dX9_cut_94 : decode cX9_cut 94 = .ok (.invokestatic 297, 3) := by decide +kernel
theorem dX9_cut_97 : decode cX9_cut 97 = .ok (.ineg, 1) := by decide +kernel
theorem dX9_cut_98 : decode cX9_cut 98 = .ok (.goto 13, 3) := by decide +kernel
theorem dX9_cut_101 : decode cX9_cut 101 = .ok (.aload_n 0, 1) := by decide +kernel
theorem dX9_cut_102 : decode cX9_cut 102 = .ok (.getfield 18, 3) := by decide +kernel
theorem dX9_cut_105 : decode cX9_cut 105 = .ok (.iload 4, 2) := by decide +kernel
theorem dX9_cut_107 : decode cX9_cut 107 = .ok (.iaload, 1) := by decide +kernel
theorem dX9_cut_108 : decode cX9_cut 108 = .ok (.invokestatic 297, 3) := by decide +kernel
theorem dX9_cut_111 : decode cX9_cut 111 = .ok (.iastore, 1) := by decide +kernel
theorem dX9_cut_112 : decode cX9_cut 112 = .ok (.iload 5, 2) := by decide +kernel
theorem dX9_cut_114 : decode cX9_cut 114 = .ok (.ireturn, 1) := by decide +kernel
theorem dX9_lead_0 : decode cX9_lead 0 = .ok (.aload_n 0, 1) := by decide +kernel
theorem dX9_lead_1 : decode cX9_lead 1 = .ok (.iconst 0, 1) := by decide +kernel
theorem dX9_lead_2 : decode cX9_lead 2 = .ok (.putfield 40, 3) := by decide +kernel
theorem dX9_lead_5 : decode cX9_lead 5 = .ok (.aload_n 0, 1) := by decide +kernel
theorem dX9_lead_6 : decode cX9_lead 6 = .ok (.iload_n 1, 1) := by decide +kernel
theorem dX9_lead_7 : decode cX9_lead 7 = .ok (.invokevirtual 270, 3) := by decide +kernel
theorem dX9_lead_10 : decode cX9_lead 10 = .ok (.ifCond .eq 5, 3) := by decide +kernel
theorem dX9_lead_13 : decode cX9_lead 13 = .ok (.iconst 0, 1) := by decide +kernel
theorem dX9_lead_14 : decode cX9_lead 14 = .ok (.ireturn, 1) := by decide +kernel
theorem dX9_lead_15 : decode cX9_lead 15 = .ok (.aload_n 0, 1) := by decide +kernel
theorem dX9_lead_16 : decode cX9_lead 16 = .ok (.invokevirtual 174, 3) := by decide +kernel
theorem dX9_lead_19 : decode cX9_lead 19 = .ok (.aload_n 0, 1) := by decide +kernel
theorem dX9_lead_20 : decode cX9_lead 20 = .ok (.getfield 18, 3) := by decide +kernel
theorem dX9_lead_23 : decode cX9_lead 23 = .ok (.iconst 2, 1) := by decide +kernel
theorem dX9_lead_24 : decode cX9_lead 24 = .ok (.iaload, 1) := by decide +kernel
theorem dX9_lead_25 : decode cX9_lead 25 = .ok (.istore_n 2, 1) := by decide +kernel
theorem dX9_lead_26 : decode cX9_lead 26 = .ok (.aload_n 0, 1) := by decide +kernel
theorem dX9_lead_27 : decode cX9_lead 27 = .ok (.getfield 18, 3) := by decide +kernel
theorem dX9_lead_30 : decode cX9_lead 30 = .ok (.iconst 2, 1) := by decide +kernel
theorem dX9_lead_31 : decode cX9_lead 31 = .ok (.iload_n 1, 1) := by decide +kernel
theorem dX9_lead_32 : decode cX9_lead 32 = .ok (.iastore, 1) := by decide +kernel
theorem dX9_lead_33 : decode cX9_lead 33 = .ok (.iconst 0, 1) := by decide +kernel
theorem dX9_lead_34 : decode cX9_lead 34 = .ok (.istore_n 3, 1) := by decide +kernel
theorem dX9_lead_35 : decode cX9_lead 35 = .ok (.iload_n 3, 1) := by decide +kernel
theorem dX9_lead_36 : decode cX9_lead 36 = .ok (.aload_n 0, 1) := by decide +kernel
theorem dX9_lead_37 : decode cX9_lead 37 = .ok (.getfield 18, 3) := by decide +kernel
theorem dX9_lead_40 : decode cX9_lead 40 = .ok (.iconst 0, 1) := by decide +kernel
theorem dX9_lead_41 : decode cX9_lead 41 = .ok (.iaload, 1) := by decide +kernel
theorem dX9_lead_42 : decode cX9_lead 42 = .ok (.if_icmp .ge 16, 3) := by decide +kernel
theorem dX9_lead_45 : decode cX9_lead 45 = .ok (.aload_n 0, 1) := by decide +kernel
theorem dX9_lead_46 : decode cX9_lead 46 = .ok (.iload_n 3, 1) := by decide +kernel
theorem dX9_lead_47 : decode cX9_lead 47 = .ok (.iconst 3, 1) := by decide +kernel
theorem dX9_lead_48 : decode cX9_lead 48 = .ok (.iconst 0, 1) := by decide +kernel
theorem dX9_lead_49 : decode cX9_lead 49 = .ok (.invokevirtual 217, 3) := by decide +kernel
theorem dX9_lead_52 : decode cX9_lead 52 = .ok (.iinc 3 1, 3) := by decide +kernel
theorem dX9_lead_55 : decode cX9_lead 55 = .ok (.goto (-20), 3) := by decide +kernel
theorem dX9_lead_58 : decode cX9_lead 58 = .ok (.iload_n 2, 1) := by decide +kernel
theorem dX9_lead_59 : decode cX9_lead 59 = .ok (.ireturn, 1) := by decide +kernel
theorem dX9_undo_0 : decode cX9_undo 0 = .ok (.aload_n 0, 1) := by decide +kernel
theorem dX9_undo_1 : decode cX9_undo 1 = .ok (.iconst 0, 1) := by decide +kernel
theorem dX9_undo_2 : decode cX9_undo 2 = .ok (.putfield 40, 3) := by decide +kernel
theorem dX9_undo_5 : decode cX9_undo 5 = .ok (.aload_n 0, 1) := by decide +kernel
theorem dX9_undo_6 : decode cX9_undo 6 = .ok (.getfield 302, 3) := by decide +kernel
theorem dX9_undo_9 : decode cX9_undo 9 = .ok (.ifCond .ne 5, 3) := by decide +kernel
theorem dX9_undo_12 : decode cX9_undo 12 = .ok (.iconst (-1), 1) := by decide +kernel
theorem dX9_undo_13 : decode cX9_undo 13 = .ok (.ireturn, 1) := by decide +kernel
theorem dX9_undo_14 : decode cX9_undo 14 = .ok (.aload_n 0, 1) := by decide +kernel
theorem dX9_undo_15 : decode cX9_undo 15 = .ok (.dup, 1) := by decide +kernel
theorem dX9_undo_16 : decode cX9_undo 16 = .ok (.getfield 302, 3) := by decide +kernel
theorem dX9_undo_19 : decode cX9_undo 19 = .ok (.iconst 1, 1) := by decide +kernel
theorem dX9_undo_20 : decode cX9_undo 20 = .ok (.isub, 1) := by decide +kernel
theorem dX9_undo_21 : decode cX9_undo 21 = .ok (.putfield 302, 3) := by decide +kernel
theorem dX9_undo_24 : decode cX9_undo 24 = .ok (.aload_n 0, 1) := by decide +kernel
theorem dX9_undo_25 : decode cX9_undo 25 = .ok (.getfield 29, 3) := by decide +kernel
theorem dX9_undo_28 : decode cX9_undo 28 = .ok (.aload_n 0, 1) := by decide +kernel
theorem dX9_undo_29 : decode cX9_undo 29 = .ok (.getfield 302, 3) := by decide +kernel
theorem dX9_undo_32 : decode cX9_undo 32 = .ok (.aaload, 1) := by decide +kernel
theorem dX9_undo_33 : decode cX9_undo 33 = .ok (.aload_n 0, 1) := by decide +kernel
theorem dX9_undo_34 : decode cX9_undo 34 = .ok (.getfield 18, 3) := by decide +kernel
theorem dX9_undo_37 : decode cX9_undo 37 = .ok (.invokestatic 177, 3) := by decide +kernel
theorem dX9_undo_40 : decode cX9_undo 40 = .ok (.aload_n 0, 1) := by decide +kernel
theorem dX9_undo_41 : decode cX9_undo 41 = .ok (.getfield 302, 3) := by decide +kernel
theorem dX9_undo_44 : decode cX9_undo 44 = .ok (.ireturn, 1) := by decide +kernel
theorem dX9_checksum_0 : decode cX9_checksum 0 = .ok (.aload_n 0, 1) := by decide +kernel
theorem dX9_checksum_1 : decode cX9_checksum 1 = .ok (.iconst 0, 1) := by decide +kernel
theorem dX9_checksum_2 : decode cX9_checksum 2 = .ok (.putfield 40, 3) := by decide +kernel
theorem dX9_checksum_5 : decode cX9_checksum 5 = .ok (.lconst 0, 1) := by decide +kernel
theorem dX9_checksum_6 : decode cX9_checksum 6 = .ok (.lstore_n 1, 1) := by decide +kernel
theorem dX9_checksum_7 : decode cX9_checksum 7 = .ok (.iconst 0, 1) := by decide +kernel
theorem dX9_checksum_8 : decode cX9_checksum 8 = .ok (.istore_n 3, 1) := by decide +kernel
theorem dX9_checksum_9 : decode cX9_checksum 9 = .ok (.iload_n 3, 1) := by decide +kernel
theorem dX9_checksum_10 : decode cX9_checksum 10 = .ok (.bipush 13, 2) := by decide +kernel
theorem dX9_checksum_12 : decode cX9_checksum 12 = .ok (.if_icmp .ge 22, 3) := by decide +kernel
theorem dX9_checksum_15 : decode cX9_checksum 15 = .ok (.ldc2_w 305, 3) := by decide +kernel
theorem dX9_checksum_18 : decode cX9_checksum 18 = .ok (.lload_n 1, 1) := by decide +kernel
theorem dX9_checksum_19 : decode cX9_checksum 19 = .ok (.lmul, 1) := by decide +kernel
theorem dX9_checksum_20 : decode cX9_checksum 20 = .ok (.aload_n 0, 1) := by decide +kernel
theorem dX9_checksum_21 : decode cX9_checksum 21 = .ok (.iload_n 3, 1) := by decide +kernel
theorem dX9_checksum_22 : decode cX9_checksum 22 = .ok (.invokevirtual 267, 3) := by decide +kernel
theorem dX9_checksum_25 : decode cX9_checksum 25 = .ok (.i2l, 1) := by decide +kernel
theorem dX9_checksum_26 : decode cX9_checksum 26 = .ok (.ladd, 1) := by decide +kernel
theorem dX9_checksum_27 : decode cX9_checksum 27 = .ok (.lstore_n 1, 1) := by decide +kernel
theorem dX9_checksum_28 : decode cX9_checksum 28 = .ok (.iinc 3 1, 3) := by decide +kernel
theorem dX9_checksum_31 : decode cX9_checksum 31 = .ok (.goto (-22), 3) := by decide +kernel
theorem dX9_checksum_34 : decode cX9_checksum 34 = .ok (.iconst 0, 1) := by decide +kernel
theorem dX9_checksum_35 : decode cX9_checksum 35 = .ok (.istore_n 3, 1) := by decide +kernel
theorem dX9_checksum_36 : decode cX9_checksum 36 = .ok (.iload_n 3, 1) := by decide +kernel
theorem dX9_checksum_37 : decode cX9_checksum 37 = .ok (.aload_n 0, 1) := by decide +kernel
theorem dX9_checksum_38 : decode cX9_checksum 38 = .ok (.getfield 18, 3) := by decide +kernel
theorem dX9_checksum_41 : decode cX9_checksum 41 = .ok (.iconst 0, 1) := by decide +kernel
theorem dX9_checksum_42 : decode cX9_checksum 42 = .ok (.iaload, 1) := by decide +kernel
theorem dX9_checksum_43 : decode cX9_checksum 43 = .ok (.if_icmp .ge 40, 3) := by decide +kernel
theorem dX9_checksum_46 : decode cX9_checksum 46 = .ok (.iconst 0, 1) := by decide +kernel
theorem dX9_checksum_47 : decode cX9_checksum 47 = .ok (.istore 4, 2) := by decide +kernel
theorem dX9_checksum_49 : decode cX9_checksum 49 = .ok (.iload 4, 2) := by decide +kernel
theorem dX9_checksum_51 : decode cX9_checksum 51 = .ok (.bipush 10, 2) := by decide +kernel
theorem dX9_checksum_53 : decode cX9_checksum 53 = .ok (.if_icmp .ge 24, 3) := by decide +kernel
theorem dX9_checksum_56 : decode cX9_checksum 56 = .ok (.ldc2_w 305, 3) := by decide +kernel
theorem dX9_checksum_59 : decode cX9_checksum 59 = .ok (.lload_n 1, 1) := by decide +kernel
theorem dX9_checksum_60 : decode cX9_checksum 60 = .ok (.lmul, 1) := by decide +kernel
theorem dX9_checksum_61 : decode cX9_checksum 61 = .ok (.aload_n 0, 1) := by decide +kernel
theorem dX9_checksum_62 : decode cX9_checksum 62 = .ok (.iload_n 3, 1) := by decide +kernel
theorem dX9_checksum_63 : decode cX9_checksum 63 = .ok (.iload 4, 2) := by decide +kernel
theorem dX9_checksum_65 : decode cX9_checksum 65 = .ok (.invokevirtual 273, 3) := by decide +kernel
theorem dX9_checksum_68 : decode cX9_checksum 68 = .ok (.i2l, 1) := by decide +kernel
theorem dX9_checksum_69 : decode cX9_checksum 69 = .ok (.ladd, 1) := by decide +kernel
theorem dX9_checksum_70 : decode cX9_checksum 70 = .ok (.lstore_n 1, 1) := by decide +kernel
theorem dX9_checksum_71 : decode cX9_checksum 71 = .ok (.iinc 4 1, 3) := by decide +kernel
theorem dX9_checksum_74 : decode cX9_checksum 74 = .ok (.goto (-25), 3) := by decide +kernel
theorem dX9_checksum_77 : decode cX9_checksum 77 = .ok (.iinc 3 1, 3) := by decide +kernel
theorem dX9_checksum_80 : decode cX9_checksum 80 = .ok (.goto (-44), 3) := by decide +kernel
theorem dX9_checksum_83 : decode cX9_checksum 83 = .ok (.aload_n 0, 1) := by decide +kernel
theorem dX9_checksum_84 : decode cX9_checksum 84 = .ok (.getfield 18, 3) := by decide +kernel
theorem dX9_checksum_87 : decode cX9_checksum 87 = .ok (.iconst 1, 1) := by decide +kernel
theorem dX9_checksum_88 : decode cX9_checksum 88 = .ok (.iaload, 1) := by decide +kernel
theorem dX9_checksum_89 : decode cX9_checksum 89 = .ok (.iconst 1, 1) := by decide +kernel
theorem dX9_checksum_90 : decode cX9_checksum 90 = .ok (.iadd, 1) := by decide +kernel
theorem dX9_checksum_91 : decode cX9_checksum 91 = .ok (.istore_n 3, 1) := by decide +kernel
theorem dX9_checksum_92 : decode cX9_checksum 92 = .ok (.iload_n 3, 1) := by decide +kernel
theorem dX9_checksum_93 : decode cX9_checksum 93 = .ok (.aload_n 0, 1) := by decide +kernel
theorem dX9_checksum_94 : decode cX9_checksum 94 = .ok (.getfield 18, 3) := by decide +kernel
theorem dX9_checksum_97 : decode cX9_checksum 97 = .ok (.iconst 1, 1) := by decide +kernel
theorem dX9_checksum_98 : decode cX9_checksum 98 = .ok (.iaload, 1) := by decide +kernel
theorem dX9_checksum_99 : decode cX9_checksum 99 = .ok (.bipush 9, 2) := by decide +kernel
theorem dX9_checksum_101 : decode cX9_checksum 101 = .ok (.iadd, 1) := by decide +kernel
theorem dX9_checksum_102 : decode cX9_checksum 102 = .ok (.if_icmp .gt 85, 3) := by decide +kernel
theorem dX9_checksum_105 : decode cX9_checksum 105 = .ok (.iconst 0, 1) := by decide +kernel
theorem dX9_checksum_106 : decode cX9_checksum 106 = .ok (.istore 4, 2) := by decide +kernel
theorem dX9_checksum_108 : decode cX9_checksum 108 = .ok (.iload 4, 2) := by decide +kernel
theorem dX9_checksum_110 : decode cX9_checksum 110 = .ok (.aload_n 0, 1) := by decide +kernel
theorem dX9_checksum_111 : decode cX9_checksum 111 = .ok (.getfield 18, 3) := by decide +kernel
theorem dX9_checksum_114 : decode cX9_checksum 114 = .ok (.iconst 3, 1) := by decide +kernel
theorem dX9_checksum_115 : decode cX9_checksum 115 = .ok (.iaload, 1) := by decide +kernel
theorem dX9_checksum_116 : decode cX9_checksum 116 = .ok (.if_icmp .ge 65, 3) := by decide +kernel
theorem dX9_checksum_119 : decode cX9_checksum 119 = .ok (.sipush 1383, 3) := by decide +kernel
theorem dX9_checksum_122 : decode cX9_checksum 122 = .ok (.bipush 6, 2) := by decide +kernel
theorem dX9_checksum_124 : decode cX9_checksum 124 = .ok (.iload 4, 2) := by decide +kernel
theorem dX9_checksum_126 : decode cX9_checksum 126 = .ok (.imul, 1) := by decide +kernel
theorem dX9_checksum_127 : decode cX9_checksum 127 = .ok (.iadd, 1) := by decide +kernel
theorem dX9_checksum_128 : decode cX9_checksum 128 = .ok (.istore 5, 2) := by decide +kernel
theorem dX9_checksum_130 : decode cX9_checksum 130 = .ok (.iconst 0, 1) := by decide +kernel
theorem dX9_checksum_131 : decode cX9_checksum 131 = .ok (.istore 6, 2) := by decide +kernel
theorem dX9_checksum_133 : decode cX9_checksum 133 = .ok (.iload 6, 2) := by decide +kernel
theorem dX9_checksum_135 : decode cX9_checksum 135 = .ok (.bipush 6, 2) := by decide +kernel
theorem dX9_checksum_137 : decode cX9_checksum 137 = .ok (.if_icmp .ge 38, 3) := by decide +kernel
theorem dX9_checksum_140 : decode cX9_checksum 140 = .ok (.aload_n 0, 1) := by decide +kernel
theorem dX9_checksum_141 : decode cX9_checksum 141 = .ok (.getfield 18, 3) := by decide +kernel
theorem dX9_checksum_144 : decode cX9_checksum 144 = .ok (.iload 5, 2) := by decide +kernel
theorem dX9_checksum_146 : decode cX9_checksum 146 = .ok (.iconst 1, 1) := by decide +kernel
theorem dX9_checksum_147 : decode cX9_checksum 147 = .ok (.iadd, 1) := by decide +kernel
theorem dX9_checksum_148 : decode cX9_checksum 148 = .ok (.iaload, 1) := by decide +kernel
theorem dX9_checksum_149 : decode cX9_checksum 149 = .ok (.iload_n 3, 1) := by decide +kernel
theorem dX9_checksum_150 : decode cX9_checksum 150 = .ok (.if_icmp .ne 25, 3) := by decide +kernel
theorem dX9_checksum_153 : decode cX9_checksum 153 = .ok (.ldc2_w 305, 3) := by decide +kernel
theorem dX9_checksum_156 : decode cX9_checksum 156 = .ok (.lload_n 1, 1) := by decide +kernel
theorem dX9_checksum_157 : decode cX9_checksum 157 = .ok (.lmul, 1) := by decide +kernel
theorem dX9_checksum_158 : decode cX9_checksum 158 = .ok (.aload_n 0, 1) := by decide +kernel
theorem dX9_checksum_159 : decode cX9_checksum 159 = .ok (.iload 5, 2) := by decide +kernel
theorem dX9_checksum_161 : decode cX9_checksum 161 = .ok (.iload 6, 2) := by decide +kernel
theorem dX9_checksum_163 : decode cX9_checksum 163 = .ok (.invokevirtual 279, 3) := by decide +kernel
theorem dX9_checksum_166 : decode cX9_checksum 166 = .ok (.i2l, 1) := by decide +kernel
theorem dX9_checksum_167 : decode cX9_checksum 167 = .ok (.ladd, 1) := by decide +kernel
theorem dX9_checksum_168 : decode cX9_checksum 168 = .ok (.lstore_n 1, 1) := by decide +kernel
theorem dX9_checksum_169 : decode cX9_checksum 169 = .ok (.iinc 6 1, 3) := by decide +kernel
theorem dX9_checksum_172 : decode cX9_checksum 172 = .ok (.goto (-39), 3) := by decide +kernel
theorem dX9_checksum_175 : decode cX9_checksum 175 = .ok (.iinc 4 1, 3) := by decide +kernel
theorem dX9_checksum_178 : decode cX9_checksum 178 = .ok (.goto (-70), 3) := by decide +kernel
theorem dX9_checksum_181 : decode cX9_checksum 181 = .ok (.iinc 3 1, 3) := by decide +kernel
theorem dX9_checksum_184 : decode cX9_checksum 184 = .ok (.goto (-92), 3) := by decide +kernel
theorem dX9_checksum_187 : decode cX9_checksum 187 = .ok (.aload_n 0, 1) := by decide +kernel
theorem dX9_checksum_188 : decode cX9_checksum 188 = .ok (.getfield 18, 3) := by decide +kernel
theorem dX9_checksum_191 : decode cX9_checksum 191 = .ok (.bipush 6, 2) := by decide +kernel
theorem dX9_checksum_193 : decode cX9_checksum 193 = .ok (.iaload, 1) := by decide +kernel
theorem dX9_checksum_194 : decode cX9_checksum 194 = .ok (.ifCond .ne 5, 3) := by decide +kernel
theorem dX9_checksum_197 : decode cX9_checksum 197 = .ok (.lload_n 1, 1) := by decide +kernel
theorem dX9_checksum_198 : decode cX9_checksum 198 = .ok (.lreturn, 1) := by decide +kernel
theorem dX9_checksum_199 : decode cX9_checksum 199 = .ok (.iconst 0, 1) := by decide +kernel
theorem dX9_checksum_200 : decode cX9_checksum 200 = .ok (.istore_n 3, 1) := by decide +kernel
theorem dX9_checksum_201 : decode cX9_checksum 201 = .ok (.iload_n 3, 1) := by decide +kernel
theorem dX9_checksum_202 : decode cX9_checksum 202 = .ok (.bipush 6, 2) := by decide +kernel
theorem dX9_checksum_204 : decode cX9_checksum 204 = .ok (.if_icmp .ge 26, 3) := by decide +kernel
theorem dX9_checksum_207 : decode cX9_checksum 207 = .ok (.ldc2_w 305, 3) := by decide +kernel
theorem dX9_checksum_210 : decode cX9_checksum 210 = .ok (.lload_n 1, 1) := by decide +kernel
theorem dX9_checksum_211 : decode cX9_checksum 211 = .ok (.lmul, 1) := by decide +kernel
theorem dX9_checksum_212 : decode cX9_checksum 212 = .ok (.aload_n 0, 1) := by decide +kernel
theorem dX9_checksum_213 : decode cX9_checksum 213 = .ok (.getfield 18, 3) := by decide +kernel
theorem dX9_checksum_216 : decode cX9_checksum 216 = .ok (.bipush 15, 2) := by decide +kernel
theorem dX9_checksum_218 : decode cX9_checksum 218 = .ok (.iload_n 3, 1) := by decide +kernel
theorem dX9_checksum_219 : decode cX9_checksum 219 = .ok (.iadd, 1) := by decide +kernel
theorem dX9_checksum_220 : decode cX9_checksum 220 = .ok (.iaload, 1) := by decide +kernel
theorem dX9_checksum_221 : decode cX9_checksum 221 = .ok (.i2l, 1) := by decide +kernel
theorem dX9_checksum_222 : decode cX9_checksum 222 = .ok (.ladd, 1) := by decide +kernel
theorem dX9_checksum_223 : decode cX9_checksum 223 = .ok (.lstore_n 1, 1) := by decide +kernel
theorem dX9_checksum_224 : decode cX9_checksum 224 = .ok (.iinc 3 1, 3) := by decide +kernel
theorem dX9_checksum_227 : decode cX9_checksum 227 = .ok (.goto (-26), 3) := by decide +kernel
theorem dX9_checksum_230 : decode cX9_checksum 230 = .ok (.ldc2_w 305, 3) := by decide +kernel
theorem dX9_checksum_233 : decode cX9_checksum 233 = .ok (.lload_n 1, 1) := by decide +kernel
theorem dX9_checksum_234 : decode cX9_checksum 234 = .ok (.lmul, 1) := by decide +kernel
theorem dX9_checksum_235 : decode cX9_checksum 235 = .ok (.aload_n 0, 1) := by decide +kernel
theorem dX9_checksum_236 : decode cX9_checksum 236 = .ok (.invokevirtual 282, 3) := by decide +kernel
theorem dX9_checksum_239 : decode cX9_checksum 239 = .ok (.i2l, 1) := by decide +kernel
theorem dX9_checksum_240 : decode cX9_checksum 240 = .ok (.ladd, 1) := by decide +kernel
theorem dX9_checksum_241 : decode cX9_checksum 241 = .ok (.lreturn, 1) := by decide +kernel
theorem dJ9_abs_0f7a4_0 : decode cJ9_abs_0f7a4 0 = .ok (.iload_n 0, 1) := by decide +kernel
theorem dJ9_abs_0f7a4_1 : decode cJ9_abs_0f7a4 1 = .ok (.ifCond .ge 8, 3) := by decide +kernel
theorem dJ9_abs_0f7a4_4 : decode cJ9_abs_0f7a4 4 = .ok (.iload_n 0, 1) := by decide +kernel
theorem dJ9_abs_0f7a4_5 : decode cJ9_abs_0f7a4 5 = .ok (.ineg, 1) := by decide +kernel
theorem dJ9_abs_0f7a4_6 : decode cJ9_abs_0f7a4 6 = .ok (.goto 4, 3) := by decide +kernel
theorem dJ9_abs_0f7a4_9 : decode cJ9_abs_0f7a4 9 = .ok (.iload_n 0, 1) := by decide +kernel
theorem dJ9_abs_0f7a4_10 : decode cJ9_abs_0f7a4 10 = .ok (.ireturn, 1) := by decide +kernel
theorem dJ9_max_7cf53_0 : decode cJ9_max_7cf53 0 = .ok (.iload_n 0, 1) := by decide +kernel
theorem dJ9_max_7cf53_1 : decode cJ9_max_7cf53 1 = .ok (.iload_n 1, 1) := by decide +kernel
theorem dJ9_max_7cf53_2 : decode cJ9_max_7cf53 2 = .ok (.if_icmp .lt 7, 3) := by decide +kernel
theorem dJ9_max_7cf53_5 : decode cJ9_max_7cf53 5 = .ok (.iload_n 0, 1) := by decide +kernel
theorem dJ9_max_7cf53_6 : decode cJ9_max_7cf53 6 = .ok (.goto 4, 3) := by decide +kernel
theorem dJ9_max_7cf53_9 : decode cJ9_max_7cf53 9 = .ok (.iload_n 1, 1) := by decide +kernel
theorem dJ9_max_7cf53_10 : decode cJ9_max_7cf53 10 = .ok (.ireturn, 1) := by decide +kernel
theorem dJ9_max_f86c9_0 : decode cJ9_max_f86c9 0 = .ok (.lload_n 0, 1) := by decide +kernel
theorem dJ9_max_f86c9_1 : decode cJ9_max_f86c9 1 = .ok (.lload_n 2, 1) := by decide +kernel
theorem dJ9_max_f86c9_2 : decode cJ9_max_f86c9 2 = .ok (.lcmp, 1) := by decide +kernel
theorem dJ9_max_f86c9_3 : decode cJ9_max_f86c9 3 = .ok (.ifCond .lt 7, 3) := by decide +kernel
theorem dJ9_max_f86c9_6 : decode cJ9_max_f86c9 6 = .ok (.lload_n 0, 1) := by decide +kernel
theorem dJ9_max_f86c9_7 : decode cJ9_max_f86c9 7 = .ok (.goto 4, 3) := by decide +kernel
theorem dJ9_max_f86c9_10 : decode cJ9_max_f86c9 10 = .ok (.lload_n 2, 1) := by decide +kernel
theorem dJ9_max_f86c9_11 : decode cJ9_max_f86c9 11 = .ok (.lreturn, 1) := by decide +kernel
theorem dJ9_min_7cf53_0 : decode cJ9_min_7cf53 0 = .ok (.iload_n 0, 1) := by decide +kernel
theorem dJ9_min_7cf53_1 : decode cJ9_min_7cf53 1 = .ok (.iload_n 1, 1) := by decide +kernel
theorem dJ9_min_7cf53_2 : decode cJ9_min_7cf53 2 = .ok (.if_icmp .gt 7, 3) := by decide +kernel
theorem dJ9_min_7cf53_5 : decode cJ9_min_7cf53 5 = .ok (.iload_n 0, 1) := by decide +kernel
theorem dJ9_min_7cf53_6 : decode cJ9_min_7cf53 6 = .ok (.goto 4, 3) := by decide +kernel
theorem dJ9_min_7cf53_9 : decode cJ9_min_7cf53 9 = .ok (.iload_n 1, 1) := by decide +kernel
theorem dJ9_min_7cf53_10 : decode cJ9_min_7cf53 10 = .ok (.ireturn, 1) := by decide +kernel
theorem dJ9_min_f86c9_0 : decode cJ9_min_f86c9 0 = .ok (.lload_n 0, 1) := by decide +kernel
theorem dJ9_min_f86c9_1 : decode cJ9_min_f86c9 1 = .ok (.lload_n 2, 1) := by decide +kernel
theorem dJ9_min_f86c9_2 : decode cJ9_min_f86c9 2 = .ok (.lcmp, 1) := by decide +kernel
theorem dJ9_min_f86c9_3 : decode cJ9_min_f86c9 3 = .ok (.ifCond .gt 7, 3) := by decide +kernel
theorem dJ9_min_f86c9_6 : decode cJ9_min_f86c9 6 = .ok (.lload_n 0, 1) := by decide +kernel
theorem dJ9_min_f86c9_7 : decode cJ9_min_f86c9 7 = .ok (.goto 4, 3) := by decide +kernel
theorem dJ9_min_f86c9_10 : decode cJ9_min_f86c9 10 = .ok (.lload_n 2, 1) := by decide +kernel
theorem dJ9_min_f86c9_11 : decode cJ9_min_f86c9 11 = .ok (.lreturn, 1) := by decide +kernel
theorem dJ0_length_8abf5_0 : decode cJ0_length_8abf5 0 = .ok (.aload_n 0, 1) := by decide +kernel
theorem dJ0_length_8abf5_1 : decode cJ0_length_8abf5 1 = .ok (.getfield 9, 3) := by decide +kernel
theorem dJ0_length_8abf5_4 : decode cJ0_length_8abf5 4 = .ok (.arraylength, 1) := by decide +kernel
theorem dJ0_length_8abf5_5 : decode cJ0_length_8abf5 5 = .ok (.aload_n 0, 1) := by decide +kernel
theorem dJ0_length_8abf5_6 : decode cJ0_length_8abf5 6 = .ok (.invokevirtual 335, 3) := by decide +kernel
theorem dJ0_length_8abf5_9 : decode cJ0_length_8abf5 9 = .ok (.ishr, 1) := by decide +kernel
theorem dJ0_length_8abf5_10 : decode cJ0_length_8abf5 10 = .ok (.ireturn, 1) := by decide +kernel
theorem dJ0_charAt_5068e_0 : decode cJ0_charAt_5068e 0 = .ok (.aload_n 0, 1) := by decide +kernel
theorem dJ0_charAt_5068e_1 : decode cJ0_charAt_5068e 1 = .ok (.invokevirtual 492, 3) := by decide +kernel
theorem dJ0_charAt_5068e_4 : decode cJ0_charAt_5068e 4 = .ok (.ifCond .eq 12, 3) := by decide +kernel
theorem dJ0_charAt_5068e_7 : decode cJ0_charAt_5068e 7 = .ok (.aload_n 0, 1) := by decide +kernel
theorem dJ0_charAt_5068e_8 : decode cJ0_charAt_5068e 8 = .ok (.getfield 9, 3) := by decide +kernel
theorem dJ0_charAt_5068e_11 : decode cJ0_charAt_5068e 11 = .ok (.iload_n 1, 1) := by decide +kernel
theorem dJ0_charAt_5068e_12 : decode cJ0_charAt_5068e 12 = .ok (.invokestatic 495, 3) := by decide +kernel
theorem dJ0_charAt_5068e_15 : decode cJ0_charAt_5068e 15 = .ok (.ireturn, 1) := by decide +kernel
theorem dJ0_charAt_5068e_16 : decode cJ0_charAt_5068e 16 = .ok (.aload_n 0, 1) := by decide +kernel
theorem dJ0_charAt_5068e_17 : decode cJ0_charAt_5068e 17 = .ok (.getfield 9, 3) := by decide +kernel
theorem dJ0_charAt_5068e_20 : decode cJ0_charAt_5068e 20 = .ok (.iload_n 1, 1) := by decide +kernel
theorem dJ0_charAt_5068e_21 : decode cJ0_charAt_5068e 21 = .ok (.invokestatic 498, 3) := by decide +kernel
theorem dJ0_charAt_5068e_24 : decode cJ0_charAt_5068e 24 = .ok (.ireturn, 1) := by decide +kernel
theorem dJ0_coder_7d493_0 : decode cJ0_coder_7d493 0 = .ok (.getstatic 38, 3) := by decide +kernel
theorem dJ0_coder_7d493_3 : decode cJ0_coder_7d493 3 = .ok (.ifCond .eq 10, 3) := by decide +kernel
theorem dJ0_coder_7d493_6 : decode cJ0_coder_7d493 6 = .ok (.aload_n 0, 1) := by decide +kernel
theorem dJ0_coder_7d493_7 : decode cJ0_coder_7d493 7 = .ok (.getfield 15, 3) := by decide +kernel
theorem dJ0_coder_7d493_10 : decode cJ0_coder_7d493 10 = .ok (.goto 4, 3) := by decide +kernel
theorem dJ0_coder_7d493_13 : decode cJ0_coder_7d493 13 = .ok (.iconst 1, 1) := by decide +kernel
theorem dJ0_coder_7d493_14 : decode cJ0_coder_7d493 14 = .ok (.ireturn, 1) := by decide +kernel
theorem dJ0_isLatin1_aae02_0 : decode cJ0_isLatin1_aae02 0 = .ok (.getstatic 38, 3) := by decide +kernel
theorem dJ0_isLatin1_aae02_3 : decode cJ0_isLatin1_aae02 3 = .ok (.ifCond .eq 14, 3) := by decide +kernel
theorem dJ0_isLatin1_aae02_6 : decode cJ0_isLatin1_aae02 6 = .ok (.aload_n 0, 1) := by decide +kernel
theorem dJ0_isLatin1_aae02_7 : decode cJ0_isLatin1_aae02 7 = .ok (.getfield 15, 3) := by decide +kernel
theorem dJ0_isLatin1_aae02_10 : decode cJ0_isLatin1_aae02 10 = .ok (.ifCond .ne 7, 3) := by decide +kernel
theorem dJ0_isLatin1_aae02_13 : decode cJ0_isLatin1_aae02 13 = .ok (.iconst 1, 1) := by decide +kernel
theorem dJ0_isLatin1_aae02_14 : decode cJ0_isLatin1_aae02 14 = .ok (.goto 4, 3) := by decide +kernel
theorem dJ0_isLatin1_aae02_17 : decode cJ0_isLatin1_aae02 17 = .ok (.iconst 0, 1) := by decide +kernel
theorem dJ0_isLatin1_aae02_18 : decode cJ0_isLatin1_aae02 18 = .ok (.ireturn, 1) := by decide +kernel
theorem dJ0_checkIndex_df160_0 : decode cJ0_checkIndex_df160 0 = .ok (.iload_n 0, 1) := by decide +kernel
theorem dJ0_checkIndex_df160_1 : decode cJ0_checkIndex_df160 1 = .ok (.iload_n 1, 1) := by decide +kernel
theorem dJ0_checkIndex_df160_2 : decode cJ0_checkIndex_df160 2 = .ok (.getstatic 1053, 3) := by decide +kernel
theorem dJ0_checkIndex_df160_5 : decode cJ0_checkIndex_df160 5 = .ok (.invokestatic 1059, 3) := by decide +kernel
theorem dJ0_checkIndex_df160_8 : decode cJ0_checkIndex_df160 8 = .ok (.pop, 1) := by decide +kernel
theorem dJ0_checkIndex_df160_9 : decode cJ0_checkIndex_df160 9 = .ok (.return_, 1) := by decide +kernel
theorem dJ1_charAt_3b067_0 : decode cJ1_charAt_3b067 0 = .ok (.iload_n 1, 1) := by decide +kernel
theorem dJ1_charAt_3b067_1 : decode cJ1_charAt_3b067 1 = .ok (.aload_n 0, 1) := by decide +kernel
theorem dJ1_charAt_3b067_2 : decode cJ1_charAt_3b067 2 = .ok (.arraylength, 1) := by decide +kernel
theorem dJ1_charAt_3b067_3 : decode cJ1_charAt_3b067 3 = .ok (.invokestatic 9, 3) := by decide +kernel
theorem dJ1_charAt_3b067_6 : decode cJ1_charAt_3b067 6 = .ok (.aload_n 0, 1) := by decide +kernel
theorem dJ1_charAt_3b067_7 : decode cJ1_charAt_3b067 7 = .ok (.iload_n 1, 1) := by decide +kernel
theorem dJ1_charAt_3b067_8 : decode cJ1_charAt_3b067 8 = .ok (.baload, 1) := by decide +kernel
theorem dJ1_charAt_3b067_9 : decode cJ1_charAt_3b067 9 = .ok (.sipush 255, 3) := by decide +kernel
theorem dJ1_charAt_3b067_12 : decode cJ1_charAt_3b067 12 = .ok (.iand, 1) := by decide +kernel
theorem dJ1_charAt_3b067_13 : decode cJ1_charAt_3b067 13 = .ok (.i2c, 1) := by decide +kernel
theorem dJ1_charAt_3b067_14 : decode cJ1_charAt_3b067 14 = .ok (.ireturn, 1) := by decide +kernel
theorem dJ2_getChar_3b067_0 : decode cJ2_getChar_3b067 0 = .ok (.getstatic 44, 3) := by decide +kernel
theorem dJ2_getChar_3b067_3 : decode cJ2_getChar_3b067 3 = .ok (.ifCond .ne 25, 3) := by decide +kernel
theorem dJ2_getChar_3b067_6 : decode cJ2_getChar_3b067 6 = .ok (.iload_n 1, 1) := by decide +kernel
theorem dJ2_getChar_3b067_7 : decode cJ2_getChar_3b067 7 = .ok (.ifCond .lt 11, 3) := by decide +kernel
theorem dJ2_getChar_3b067_10 : decode cJ2_getChar_3b067 10 = .ok (.iload_n 1, 1) := by decide +kernel
theorem dJ2_getChar_3b067_11 : decode cJ2_getChar_3b067 11 = .ok (.aload_n 0, 1) := by decide +kernel
theorem dJ2_getChar_3b067_12 : decode cJ2_getChar_3b067 12 = .ok (.invokestatic 48, 3) := by decide +kernel
theorem dJ2_getChar_3b067_15 : decode cJ2_getChar_3b067 15 = .ok (.if_icmp .lt 13, 3) := by decide +kernel
theorem dJ2_getChar_3b067_18 : decode cJ2_getChar_3b067 18 = .ok (.new 52, 3) := by decide +kernel
theorem dJ2_getChar_3b067_21 : decode cJ2_getChar_3b067 21 = .ok (.dup, 1) := by decide +kernel
theorem dJ2_getChar_3b067_22 : decode cJ2_getChar_3b067 22 = .ok (.ldc 54, 2) := by decide +kernel
theorem dJ2_getChar_3b067_24 : decode cJ2_getChar_3b067 24 = .ok (.invokespecial 56, 3) := by decide +kernel
theorem dJ2_getChar_3b067_27 : decode cJ2_getChar_3b067 27 = .ok (.athrow, 1) := by decide +kernel
theorem dJ2_getChar_3b067_28 : decode cJ2_getChar_3b067 28 = .ok (.iload_n 1, 1) := by decide +kernel
theorem dJ2_getChar_3b067_29 : decode cJ2_getChar_3b067 29 = .ok (.iconst 1, 1) := by decide +kernel
theorem dJ2_getChar_3b067_30 : decode cJ2_getChar_3b067 30 = .ok (.ishl, 1) := by decide +kernel
theorem dJ2_getChar_3b067_31 : decode cJ2_getChar_3b067 31 = .ok (.istore_n 1, 1) := by decide +kernel
theorem dJ2_getChar_3b067_32 : decode cJ2_getChar_3b067 32 = .ok (.aload_n 0, 1) := by decide +kernel
theorem dJ2_getChar_3b067_33 : decode cJ2_getChar_3b067 33 = .ok (.iload_n 1, 1) := by decide +kernel
theorem dJ2_getChar_3b067_34 : decode cJ2_getChar_3b067 34 = .ok (.iinc 1 1, 3) := by decide +kernel
theorem dJ2_getChar_3b067_37 : decode cJ2_getChar_3b067 37 = .ok (.baload, 1) := by decide +kernel
theorem dJ2_getChar_3b067_38 : decode cJ2_getChar_3b067 38 = .ok (.sipush 255, 3) := by decide +kernel
theorem dJ2_getChar_3b067_41 : decode cJ2_getChar_3b067 41 = .ok (.iand, 1) := by decide +kernel
theorem dJ2_getChar_3b067_42 : decode cJ2_getChar_3b067 42 = .ok (.getstatic 59, 3) := by decide +kernel
theorem dJ2_getChar_3b067_45 : decode cJ2_getChar_3b067 45 = .ok (.ishl, 1) := by decide +kernel
theorem dJ2_getChar_3b067_46 : decode cJ2_getChar_3b067 46 = .ok (.aload_n 0, 1) := by decide +kernel
theorem dJ2_getChar_3b067_47 : decode cJ2_getChar_3b067 47 = .ok (.iload_n 1, 1) := by decide +kernel
theorem dJ2_getChar_3b067_48 : decode cJ2_getChar_3b067 48 = .ok (.baload, 1) := by decide +kernel
theorem dJ2_getChar_3b067_49 : decode cJ2_getChar_3b067 49 = .ok (.sipush 255, 3) := by decide +kernel
theorem dJ2_getChar_3b067_52 : decode cJ2_getChar_3b067 52 = .ok (.iand, 1) := by decide +kernel
theorem dJ2_getChar_3b067_53 : decode cJ2_getChar_3b067 53 = .ok (.getstatic 63, 3) := by decide +kernel
theorem dJ2_getChar_3b067_56 : decode cJ2_getChar_3b067 56 = .ok (.ishl, 1) := by decide +kernel
theorem dJ2_getChar_3b067_57 : decode cJ2_getChar_3b067 57 = .ok (.ior, 1) := by decide +kernel
theorem dJ2_getChar_3b067_58 : decode cJ2_getChar_3b067 58 = .ok (.i2c, 1) := by decide +kernel
theorem dJ2_getChar_3b067_59 : decode cJ2_getChar_3b067 59 = .ok (.ireturn, 1) := by decide +kernel
theorem dJ2_length_9d52b_0 : decode cJ2_length_9d52b 0 = .ok (.aload_n 0, 1) := by decide +kernel
theorem dJ2_length_9d52b_1 : decode cJ2_length_9d52b 1 = .ok (.arraylength, 1) := by decide +kernel
theorem dJ2_length_9d52b_2 : decode cJ2_length_9d52b 2 = .ok (.iconst 1, 1) := by decide +kernel
theorem dJ2_length_9d52b_3 : decode cJ2_length_9d52b 3 = .ok (.ishr, 1) := by decide +kernel
theorem dJ2_length_9d52b_4 : decode cJ2_length_9d52b 4 = .ok (.ireturn, 1) := by decide +kernel
theorem dJ2_charAt_3b067_0 : decode cJ2_charAt_3b067 0 = .ok (.iload_n 1, 1) := by decide +kernel
theorem dJ2_charAt_3b067_1 : decode cJ2_charAt_3b067 1 = .ok (.aload_n 0, 1) := by decide +kernel
theorem dJ2_charAt_3b067_2 : decode cJ2_charAt_3b067 2 = .ok (.invokestatic 67, 3) := by decide +kernel
theorem dJ2_charAt_3b067_5 : decode cJ2_charAt_3b067 5 = .ok (.aload_n 0, 1) := by decide +kernel
theorem dJ2_charAt_3b067_6 : decode cJ2_charAt_3b067 6 = .ok (.iload_n 1, 1) := by decide +kernel
theorem dJ2_charAt_3b067_7 : decode cJ2_charAt_3b067 7 = .ok (.invokestatic 71, 3) := by decide +kernel
theorem dJ2_charAt_3b067_10 : decode cJ2_charAt_3b067 10 = .ok (.ireturn, 1) := by decide +kernel
theorem dJ2_checkIndex_2214a_0 : decode cJ2_checkIndex_2214a 0 = .ok (.iload_n 0, 1) := by decide +kernel
theorem dJ2_checkIndex_2214a_1 : decode cJ2_checkIndex_2214a 1 = .ok (.aload_n 1, 1) := by decide +kernel
theorem dJ2_checkIndex_2214a_2 : decode cJ2_checkIndex_2214a 2 = .ok (.invokestatic 48, 3) := by decide +kernel
theorem dJ2_checkIndex_2214a_5 : decode cJ2_checkIndex_2214a 5 = .ok (.invokestatic 414, 3) := by decide +kernel
theorem dJ2_checkIndex_2214a_8 : decode cJ2_checkIndex_2214a 8 = .ok (.return_, 1) := by decide +kernel
theorem dJ7_fill_53178_0 : decode cJ7_fill_53178 0 = .ok (.iconst 0, 1) := by decide +kernel
theorem dJ7_fill_53178_1 : decode cJ7_fill_53178 1 = .ok (.istore_n 2, 1) := by decide +kernel
theorem dJ7_fill_53178_2 : decode cJ7_fill_53178 2 = .ok (.aload_n 0, 1) := by decide +kernel
theorem dJ7_fill_53178_3 : decode cJ7_fill_53178 3 = .ok (.arraylength, 1) := by decide +kernel
theorem dJ7_fill_53178_4 : decode cJ7_fill_53178 4 = .ok (.istore_n 3, 1) := by decide +kernel
theorem dJ7_fill_53178_5 : decode cJ7_fill_53178 5 = .ok (.iload_n 2, 1) := by decide +kernel
theorem dJ7_fill_53178_6 : decode cJ7_fill_53178 6 = .ok (.iload_n 3, 1) := by decide +kernel
theorem dJ7_fill_53178_7 : decode cJ7_fill_53178 7 = .ok (.if_icmp .ge 13, 3) := by decide +kernel
theorem dJ7_fill_53178_10 : decode cJ7_fill_53178 10 = .ok (.aload_n 0, 1) := by decide +kernel
theorem dJ7_fill_53178_11 : decode cJ7_fill_53178 11 = .ok (.iload_n 2, 1) := by decide +kernel
theorem dJ7_fill_53178_12 : decode cJ7_fill_53178 12 = .ok (.iload_n 1, 1) := by decide +kernel
theorem dJ7_fill_53178_13 : decode cJ7_fill_53178 13 = .ok (.iastore, 1) := by decide +kernel
theorem dJ7_fill_53178_14 : decode cJ7_fill_53178 14 = .ok (.iinc 2 1, 3) := by decide +kernel
theorem dJ7_fill_53178_17 : decode cJ7_fill_53178 17 = .ok (.goto (-12), 3) := by decide +kernel
theorem dJ7_fill_53178_20 : decode cJ7_fill_53178 20 = .ok (.return_, 1) := by decide +kernel
theorem dJ7_copyOf_59c91_0 : decode cJ7_copyOf_59c91 0 = .ok (.iload_n 1, 1) := by decide +kernel
theorem dJ7_copyOf_59c91_1 : decode cJ7_copyOf_59c91 1 = .ok (.aload_n 0, 1) := by decide +kernel
theorem dJ7_copyOf_59c91_2 : decode cJ7_copyOf_59c91 2 = .ok (.arraylength, 1) := by decide +kernel
theorem dJ7_copyOf_59c91_3 : decode cJ7_copyOf_59c91 3 = .ok (.if_icmp .ne 11, 3) := by decide +kernel
theorem dJ7_copyOf_59c91_6 : decode cJ7_copyOf_59c91 6 = .ok (.aload_n 0, 1) := by decide +kernel
theorem dJ7_copyOf_59c91_7 : decode cJ7_copyOf_59c91 7 = .ok (.invokevirtual 316, 3) := by decide +kernel
theorem dJ7_copyOf_59c91_10 : decode cJ7_copyOf_59c91 10 = .ok (.checkcast 317, 3) := by decide +kernel
theorem dJ7_copyOf_59c91_13 : decode cJ7_copyOf_59c91 13 = .ok (.areturn, 1) := by decide +kernel
theorem dJ7_copyOf_59c91_14 : decode cJ7_copyOf_59c91 14 = .ok (.iload_n 1, 1) := by decide +kernel
theorem dJ7_copyOf_59c91_15 : decode cJ7_copyOf_59c91 15 = .ok (.newarray .int, 2) := by decide +kernel
theorem dJ7_copyOf_59c91_17 : decode cJ7_copyOf_59c91 17 = .ok (.astore_n 2, 1) := by decide +kernel
theorem dJ7_copyOf_59c91_18 : decode cJ7_copyOf_59c91 18 = .ok (.aload_n 0, 1) := by decide +kernel
theorem dJ7_copyOf_59c91_19 : decode cJ7_copyOf_59c91 19 = .ok (.iconst 0, 1) := by decide +kernel
theorem dJ7_copyOf_59c91_20 : decode cJ7_copyOf_59c91 20 = .ok (.aload_n 2, 1) := by decide +kernel
theorem dJ7_copyOf_59c91_21 : decode cJ7_copyOf_59c91 21 = .ok (.iconst 0, 1) := by decide +kernel
theorem dJ7_copyOf_59c91_22 : decode cJ7_copyOf_59c91 22 = .ok (.aload_n 0, 1) := by decide +kernel
theorem dJ7_copyOf_59c91_23 : decode cJ7_copyOf_59c91 23 = .ok (.arraylength, 1) := by decide +kernel
theorem dJ7_copyOf_59c91_24 : decode cJ7_copyOf_59c91 24 = .ok (.iload_n 1, 1) := by decide +kernel
theorem dJ7_copyOf_59c91_25 : decode cJ7_copyOf_59c91 25 = .ok (.invokestatic 304, 3) := by decide +kernel
theorem dJ7_copyOf_59c91_28 : decode cJ7_copyOf_59c91 28 = .ok (.invokestatic 150, 3) := by decide +kernel
theorem dJ7_copyOf_59c91_31 : decode cJ7_copyOf_59c91 31 = .ok (.aload_n 2, 1) := by decide +kernel
theorem dJ7_copyOf_59c91_32 : decode cJ7_copyOf_59c91 32 = .ok (.areturn, 1) := by decide +kernel
theorem dJ3_checkIndex_8e157_0 : decode cJ3_checkIndex_8e157 0 = .ok (.iload_n 0, 1) := by decide +kernel
theorem dJ3_checkIndex_8e157_1 : decode cJ3_checkIndex_8e157 1 = .ok (.ifCond .lt 8, 3) := by decide +kernel
theorem dJ3_checkIndex_8e157_4 : decode cJ3_checkIndex_8e157 4 = .ok (.iload_n 0, 1) := by decide +kernel
theorem dJ3_checkIndex_8e157_5 : decode cJ3_checkIndex_8e157 5 = .ok (.iload_n 1, 1) := by decide +kernel
theorem dJ3_checkIndex_8e157_6 : decode cJ3_checkIndex_8e157 6 = .ok (.if_icmp .lt 10, 3) := by decide +kernel
theorem dJ3_checkIndex_8e157_9 : decode cJ3_checkIndex_8e157 9 = .ok (.aload_n 2, 1) := by decide +kernel
theorem dJ3_checkIndex_8e157_10 : decode cJ3_checkIndex_8e157 10 = .ok (.iload_n 0, 1) := by decide +kernel
theorem dJ3_checkIndex_8e157_11 : decode cJ3_checkIndex_8e157 11 = .ok (.iload_n 1, 1) := by decide +kernel
theorem dJ3_checkIndex_8e157_12 : decode cJ3_checkIndex_8e157 12 = .ok (.invokestatic 95, 3) := by decide +kernel
theorem dJ3_checkIndex_8e157_15 : decode cJ3_checkIndex_8e157 15 = .ok (.athrow, 1) := by decide +kernel
theorem dJ3_checkIndex_8e157_16 : decode cJ3_checkIndex_8e157 16 = .ok (.iload_n 0, 1) := by decide +kernel
theorem dJ3_checkIndex_8e157_17 : decode cJ3_checkIndex_8e157 17 = .ok (.ireturn, 1) := by decide +kernel
theorem dL_load_0 : decode cL_load 0 = .ok (.aload_n 2, 1) := by decide +kernel
theorem dL_load_1 : decode cL_load 1 = .ok (.iconst 0, 1) := by decide +kernel
theorem dL_load_2 : decode cL_load 2 = .ok (.aload_n 0, 1) := by decide +kernel
theorem dL_load_3 : decode cL_load 3 = .ok (.iload_n 1, 1) := by decide +kernel
theorem dL_load_4 : decode cL_load 4 = .ok (.invokevirtual 7, 3) := by decide +kernel
theorem dL_load_7 : decode cL_load 7 = .ok (.i2l, 1) := by decide +kernel
theorem dL_load_8 : decode cL_load 8 = .ok (.lastore, 1) := by decide +kernel
theorem dL_load_9 : decode cL_load 9 = .ok (.goto 6, 3) := by decide +kernel
theorem dL_load_12 : decode cL_load 12 = .ok (.astore_n 3, 1) := by decide +kernel
theorem dL_load_13 : decode cL_load 13 = .ok (.iconst 1, 1) := by decide +kernel
theorem dL_load_14 : decode cL_load 14 = .ok (.ireturn, 1) := by decide +kernel
theorem dL_load_15 : decode cL_load 15 = .ok (.iconst 0, 1) := by decide +kernel
theorem dL_load_16 : decode cL_load 16 = .ok (.ireturn, 1) := by decide +kernel
theorem dL_state_0 : decode cL_state 0 = .ok (.aload_n 2, 1) := by decide +kernel
theorem dL_state_1 : decode cL_state 1 = .ok (.iconst 0, 1) := by decide +kernel
theorem dL_state_2 : decode cL_state 2 = .ok (.aload_n 0, 1) := by decide +kernel
theorem dL_state_3 : decode cL_state 3 = .ok (.iload_n 1, 1) := by decide +kernel
theorem dL_state_4 : decode cL_state 4 = .ok (.invokevirtual 15, 3) := by decide +kernel
theorem dL_state_7 : decode cL_state 7 = .ok (.i2l, 1) := by decide +kernel
theorem dL_state_8 : decode cL_state 8 = .ok (.lastore, 1) := by decide +kernel
theorem dL_state_9 : decode cL_state 9 = .ok (.goto 6, 3) := by decide +kernel
theorem dL_state_12 : decode cL_state 12 = .ok (.astore_n 3, 1) := by decide +kernel
theorem dL_state_13 : decode cL_state 13 = .ok (.iconst 1, 1) := by decide +kernel
theorem dL_state_14 : decode cL_state 14 = .ok (.ireturn, 1) := by decide +kernel
theorem dL_state_15 : decode cL_state 15 = .ok (.iconst 0, 1) := by decide +kernel
theorem dL_state_16 : decode cL_state 16 = .ok (.ireturn, 1) := by decide +kernel
theorem dL_player_0 : decode cL_player 0 = .ok (.aload_n 3, 1) := by decide +kernel
theorem dL_player_1 : decode cL_player 1 = .ok (.iconst 0, 1) := by decide +kernel
theorem dL_player_2 : decode cL_player 2 = .ok (.aload_n 0, 1) := by decide +kernel
theorem dL_player_3 : decode cL_player 3 = .ok (.iload_n 1, 1) := by decide +kernel
theorem dL_player_4 : decode cL_player 4 = .ok (.iload_n 2, 1) := by decide +kernel
theorem dL_player_5 : decode cL_player 5 = .ok (.invokevirtual 18, 3) := by decide +kernel
theorem dL_player_8 : decode cL_player 8 = .ok (.i2l, 1) := by decide +kernel
theorem dL_player_9 : decode cL_player 9 = .ok (.lastore, 1) := by decide +kernel
theorem dL_player_10 : decode cL_player 10 = .ok (.goto 11, 3) := by decide +kernel
theorem dL_player_13 : decode cL_player 13 = .ok (.astore 4, 2) := by decide +kernel
theorem dL_player_15 : decode cL_player 15 = .ok (.iconst 1, 1) := by decide +kernel
theorem dL_player_16 : decode cL_player 16 = .ok (.ireturn, 1) := by decide +kernel
theorem dL_player_17 : decode cL_player 17 = .ok (.astore 4, 2) := by decide +kernel
theorem dL_player_19 : decode cL_player 19 = .ok (.iconst 2, 1) := by decide +kernel
theorem dL_player_20 : decode cL_player 20 = .ok (.ireturn, 1) := by decide +kernel
theorem dL_player_21 : decode cL_player 21 = .ok (.iconst 0, 1) := by decide +kernel
theorem dL_player_22 : decode cL_player 22 = .ok (.ireturn, 1) := by decide +kernel
theorem dL_link_0 : decode cL_link 0 = .ok (.aload_n 3, 1) := by decide +kernel
theorem dL_link_1 : decode cL_link 1 = .ok (.iconst 0, 1) := by decide +kernel
theorem dL_link_2 : decode cL_link 2 = .ok (.aload_n 0, 1) := by decide +kernel
theorem dL_link_3 : decode cL_link 3 = .ok (.iload_n 1, 1) := by decide +kernel
theorem dL_link_4 : decode cL_link 4 = .ok (.iload_n 2, 1) := by decide +kernel
theorem dL_link_5 : decode cL_link 5 = .ok (.invokevirtual 24, 3) := by decide +kernel
theorem dL_link_8 : decode cL_link 8 = .ok (.i2l, 1) := by decide +kernel
theorem dL_link_9 : decode cL_link 9 = .ok (.lastore, 1) := by decide +kernel
theorem dL_link_10 : decode cL_link 10 = .ok (.goto 7, 3) := by decide +kernel
theorem dL_link_13 : decode cL_link 13 = .ok (.astore 4, 2) := by decide +kernel
theorem dL_link_15 : decode cL_link 15 = .ok (.iconst 1, 1) := by decide +kernel
theorem dL_link_16 : decode cL_link 16 = .ok (.ireturn, 1) := by decide +kernel
theorem dL_link_17 : decode cL_link 17 = .ok (.iconst 0, 1) := by decide +kernel
theorem dL_link_18 : decode cL_link 18 = .ok (.ireturn, 1) := by decide +kernel
theorem dL_message_0 : decode cL_message 0 = .ok (.aload_n 3, 1) := by decide +kernel
theorem dL_message_1 : decode cL_message 1 = .ok (.iconst 0, 1) := by decide +kernel
theorem dL_message_2 : decode cL_message 2 = .ok (.aload_n 0, 1) := by decide +kernel
theorem dL_message_3 : decode cL_message 3 = .ok (.iload_n 1, 1) := by decide +kernel
theorem dL_message_4 : decode cL_message 4 = .ok (.iload_n 2, 1) := by decide +kernel
theorem dL_message_5 : decode cL_message 5 = .ok (.invokevirtual 27, 3) := by decide +kernel
theorem dL_message_8 : decode cL_message 8 = .ok (.i2l, 1) := by decide +kernel
theorem dL_message_9 : decode cL_message 9 = .ok (.lastore, 1) := by decide +kernel
theorem dL_message_10 : decode cL_message 10 = .ok (.goto 11, 3) := by decide +kernel
theorem dL_message_13 : decode cL_message 13 = .ok (.astore 4, 2) := by decide +kernel
theorem dL_message_15 : decode cL_message 15 = .ok (.iconst 1, 1) := by decide +kernel
theorem dL_message_16 : decode cL_message 16 = .ok (.ireturn, 1) := by decide +kernel
theorem dL_message_17 : decode cL_message 17 = .ok (.astore 4, 2) := by decide +kernel
theorem dL_message_19 : decode cL_message 19 = .ok (.iconst 2, 1) := by decide +kernel
theorem dL_message_20 : decode cL_message 20 = .ok (.ireturn, 1) := by decide +kernel
theorem dL_message_21 : decode cL_message 21 = .ok (.iconst 0, 1) := by decide +kernel
theorem dL_message_22 : decode cL_message 22 = .ok (.ireturn, 1) := by decide +kernel
theorem dL_proposal_0 : decode cL_proposal 0 = .ok (.aload_n 2, 1) := by decide +kernel
theorem dL_proposal_1 : decode cL_proposal 1 = .ok (.iconst 0, 1) := by decide +kernel
theorem dL_proposal_2 : decode cL_proposal 2 = .ok (.aload_n 0, 1) := by decide +kernel
theorem dL_proposal_3 : decode cL_proposal 3 = .ok (.iload_n 1, 1) := by decide +kernel
theorem dL_proposal_4 : decode cL_proposal 4 = .ok (.invokevirtual 32, 3) := by decide +kernel
theorem dL_proposal_7 : decode cL_proposal 7 = .ok (.i2l, 1) := by decide +kernel
theorem dL_proposal_8 : decode cL_proposal 8 = .ok (.lastore, 1) := by decide +kernel
theorem dL_proposal_9 : decode cL_proposal 9 = .ok (.goto 9, 3) := by decide +kernel
theorem dL_proposal_12 : decode cL_proposal 12 = .ok (.astore_n 3, 1) := by decide +kernel
theorem dL_proposal_13 : decode cL_proposal 13 = .ok (.iconst 1, 1) := by decide +kernel
theorem dL_proposal_14 : decode cL_proposal 14 = .ok (.ireturn, 1) := by decide +kernel
theorem dL_proposal_15 : decode cL_proposal 15 = .ok (.astore_n 3, 1) := by decide +kernel
theorem dL_proposal_16 : decode cL_proposal 16 = .ok (.iconst 2, 1) := by decide +kernel
theorem dL_proposal_17 : decode cL_proposal 17 = .ok (.ireturn, 1) := by decide +kernel
theorem dL_proposal_18 : decode cL_proposal 18 = .ok (.iconst 0, 1) := by decide +kernel
theorem dL_proposal_19 : decode cL_proposal 19 = .ok (.ireturn, 1) := by decide +kernel
theorem dL_foretold_0 : decode cL_foretold 0 = .ok (.aload_n 2, 1) := by decide +kernel
theorem dL_foretold_1 : decode cL_foretold 1 = .ok (.iconst 0, 1) := by decide +kernel
theorem dL_foretold_2 : decode cL_foretold 2 = .ok (.aload_n 0, 1) := by decide +kernel
theorem dL_foretold_3 : decode cL_foretold 3 = .ok (.iload_n 1, 1) := by decide +kernel
theorem dL_foretold_4 : decode cL_foretold 4 = .ok (.invokevirtual 35, 3) := by decide +kernel
theorem dL_foretold_7 : decode cL_foretold 7 = .ok (.i2l, 1) := by decide +kernel
theorem dL_foretold_8 : decode cL_foretold 8 = .ok (.lastore, 1) := by decide +kernel
theorem dL_foretold_9 : decode cL_foretold 9 = .ok (.goto 6, 3) := by decide +kernel
theorem dL_foretold_12 : decode cL_foretold 12 = .ok (.astore_n 3, 1) := by decide +kernel
theorem dL_foretold_13 : decode cL_foretold 13 = .ok (.iconst 1, 1) := by decide +kernel
theorem dL_foretold_14 : decode cL_foretold 14 = .ok (.ireturn, 1) := by decide +kernel
theorem dL_foretold_15 : decode cL_foretold 15 = .ok (.iconst 0, 1) := by decide +kernel
theorem dL_foretold_16 : decode cL_foretold 16 = .ok (.ireturn, 1) := by decide +kernel
theorem dL_propose_0 : decode cL_propose 0 = .ok (.aload_n 2, 1) := by decide +kernel
theorem dL_propose_1 : decode cL_propose 1 = .ok (.iconst 0, 1) := by decide +kernel
theorem dL_propose_2 : decode cL_propose 2 = .ok (.aload_n 0, 1) := by decide +kernel
theorem dL_propose_3 : decode cL_propose 3 = .ok (.iload_n 1, 1) := by decide +kernel
theorem dL_propose_4 : decode cL_propose 4 = .ok (.invokevirtual 38, 3) := by decide +kernel
theorem dL_propose_7 : decode cL_propose 7 = .ok (.i2l, 1) := by decide +kernel
theorem dL_propose_8 : decode cL_propose 8 = .ok (.lastore, 1) := by decide +kernel
theorem dL_propose_9 : decode cL_propose 9 = .ok (.goto 9, 3) := by decide +kernel
theorem dL_propose_12 : decode cL_propose 12 = .ok (.astore_n 3, 1) := by decide +kernel
theorem dL_propose_13 : decode cL_propose 13 = .ok (.iconst 1, 1) := by decide +kernel
theorem dL_propose_14 : decode cL_propose 14 = .ok (.ireturn, 1) := by decide +kernel
theorem dL_propose_15 : decode cL_propose 15 = .ok (.astore_n 3, 1) := by decide +kernel
theorem dL_propose_16 : decode cL_propose 16 = .ok (.iconst 2, 1) := by decide +kernel
theorem dL_propose_17 : decode cL_propose 17 = .ok (.ireturn, 1) := by decide +kernel
theorem dL_propose_18 : decode cL_propose 18 = .ok (.iconst 0, 1) := by decide +kernel
theorem dL_propose_19 : decode cL_propose 19 = .ok (.ireturn, 1) := by decide +kernel
theorem dL_ask_0 : decode cL_ask 0 = .ok (.aload_n 2, 1) := by decide +kernel
theorem dL_ask_1 : decode cL_ask 1 = .ok (.iconst 0, 1) := by decide +kernel
theorem dL_ask_2 : decode cL_ask 2 = .ok (.aload_n 0, 1) := by decide +kernel
theorem dL_ask_3 : decode cL_ask 3 = .ok (.iload_n 1, 1) := by decide +kernel
theorem dL_ask_4 : decode cL_ask 4 = .ok (.invokevirtual 43, 3) := by decide +kernel
theorem dL_ask_7 : decode cL_ask 7 = .ok (.ifCond .eq 7, 3) := by decide +kernel
theorem dL_ask_10 : decode cL_ask 10 = .ok (.lconst 1, 1) := by decide +kernel
theorem dL_ask_11 : decode cL_ask 11 = .ok (.goto 4, 3) := by decide +kernel
theorem dL_ask_14 : decode cL_ask 14 = .ok (.lconst 0, 1) := by decide +kernel
theorem dL_ask_15 : decode cL_ask 15 = .ok (.lastore, 1) := by decide +kernel
theorem dL_ask_16 : decode cL_ask 16 = .ok (.goto 9, 3) := by decide +kernel
theorem dL_ask_19 : decode cL_ask 19 = .ok (.astore_n 3, 1) := by decide +kernel
theorem dL_ask_20 : decode cL_ask 20 = .ok (.iconst 1, 1) := by decide +kernel
theorem dL_ask_21 : decode cL_ask 21 = .ok (.ireturn, 1) := by decide +kernel
theorem dL_ask_22 : decode cL_ask 22 = .ok (.astore_n 3, 1) := by decide +kernel
theorem dL_ask_23 : decode cL_ask 23 = .ok (.iconst 2, 1) := by decide +kernel
theorem dL_ask_24 : decode cL_ask 24 = .ok (.ireturn, 1) := by decide +kernel
theorem dL_ask_25 : decode cL_ask 25 = .ok (.iconst 0, 1) := by decide +kernel
theorem dL_ask_26 : decode cL_ask 26 = .ok (.ireturn, 1) := by decide +kernel
theorem dL_pass_0 : decode cL_pass 0 = .ok (.aload_n 2, 1) := by decide +kernel
theorem dL_pass_1 : decode cL_pass 1 = .ok (.iconst 0, 1) := by decide +kernel
theorem dL_pass_2 : decode cL_pass 2 = .ok (.aload_n 0, 1) := by decide +kernel
theorem dL_pass_3 : decode cL_pass 3 = .ok (.iload_n 1, 1) := by decide +kernel
theorem dL_pass_4 : decode cL_pass 4 = .ok (.invokevirtual 47, 3) := by decide +kernel
theorem dL_pass_7 : decode cL_pass 7 = .ok (.i2l, 1) := by decide +kernel
theorem dL_pass_8 : decode cL_pass 8 = .ok (.lastore, 1) := by decide +kernel
theorem dL_pass_9 : decode cL_pass 9 = .ok (.goto 6, 3) := by decide +kernel
theorem dL_pass_12 : decode cL_pass 12 = .ok (.astore_n 3, 1) := by decide +kernel
theorem dL_pass_13 : decode cL_pass 13 = .ok (.iconst 1, 1) := by decide +kernel
theorem dL_pass_14 : decode cL_pass 14 = .ok (.ireturn, 1) := by decide +kernel
theorem dL_pass_15 : decode cL_pass 15 = .ok (.iconst 0, 1) := by decide +kernel
theorem dL_pass_16 : decode cL_pass 16 = .ok (.ireturn, 1) := by decide +kernel
theorem dL_power_0 : decode cL_power 0 = .ok (.aload_n 3, 1) := by decide +kernel
theorem dL_power_1 : decode cL_power 1 = .ok (.iconst 0, 1) := by decide +kernel
theorem dL_power_2 : decode cL_power 2 = .ok (.aload_n 0, 1) := by decide +kernel
theorem dL_power_3 : decode cL_power 3 = .ok (.iload_n 1, 1) := by decide +kernel
theorem dL_power_4 : decode cL_power 4 = .ok (.iload_n 2, 1) := by decide +kernel
theorem dL_power_5 : decode cL_power 5 = .ok (.invokevirtual 50, 3) := by decide +kernel
theorem dL_power_8 : decode cL_power 8 = .ok (.ifCond .eq 7, 3) := by decide +kernel
theorem dL_power_11 : decode cL_power 11 = .ok (.lconst 1, 1) := by decide +kernel
theorem dL_power_12 : decode cL_power 12 = .ok (.goto 4, 3) := by decide +kernel
theorem dL_power_15 : decode cL_power 15 = .ok (.lconst 0, 1) := by decide +kernel
theorem dL_power_16 : decode cL_power 16 = .ok (.lastore, 1) := by decide +kernel
theorem dL_power_17 : decode cL_power 17 = .ok (.goto 7, 3) := by decide +kernel
theorem dL_power_20 : decode cL_power 20 = .ok (.astore 4, 2) := by decide +kernel
theorem dL_power_22 : decode cL_power 22 = .ok (.iconst 1, 1) := by decide +kernel
theorem dL_power_23 : decode cL_power 23 = .ok (.ireturn, 1) := by decide +kernel
theorem dL_power_24 : decode cL_power 24 = .ok (.iconst 0, 1) := by decide +kernel
theorem dL_power_25 : decode cL_power 25 = .ok (.ireturn, 1) := by decide +kernel
theorem dL_cut_0 : decode cL_cut 0 = .ok (.aload 4, 2) := by decide +kernel
theorem dL_cut_2 : decode cL_cut 2 = .ok (.iconst 0, 1) := by decide +kernel
theorem dL_cut_3 : decode cL_cut 3 = .ok (.aload_n 0, 1) := by decide +kernel
theorem dL_cut_4 : decode cL_cut 4 = .ok (.iload_n 1, 1) := by decide +kernel
theorem dL_cut_5 : decode cL_cut 5 = .ok (.iload_n 2, 1) := by decide +kernel
theorem dL_cut_6 : decode cL_cut 6 = .ok (.iload_n 3, 1) := by decide +kernel
theorem dL_cut_7 : decode cL_cut 7 = .ok (.invokevirtual 54, 3) := by decide +kernel
theorem dL_cut_10 : decode cL_cut 10 = .ok (.ifCond .eq 7, 3) := by decide +kernel
theorem dL_cut_13 : decode cL_cut 13 = .ok (.lconst 1, 1) := by decide +kernel
theorem dL_cut_14 : decode cL_cut 14 = .ok (.goto 4, 3) := by decide +kernel
theorem dL_cut_17 : decode cL_cut 17 = .ok (.lconst 0, 1) := by decide +kernel
theorem dL_cut_18 : decode cL_cut 18 = .ok (.lastore, 1) := by decide +kernel
theorem dL_cut_19 : decode cL_cut 19 = .ok (.goto 11, 3) := by decide +kernel
theorem dL_cut_22 : decode cL_cut 22 = .ok (.astore 5, 2) := by decide +kernel
theorem dL_cut_24 : decode cL_cut 24 = .ok (.iconst 1, 1) := by decide +kernel
theorem dL_cut_25 : decode cL_cut 25 = .ok (.ireturn, 1) := by decide +kernel
theorem dL_cut_26 : decode cL_cut 26 = .ok (.astore 5, 2) := by decide +kernel
theorem dL_cut_28 : decode cL_cut 28 = .ok (.iconst 2, 1) := by decide +kernel
theorem dL_cut_29 : decode cL_cut 29 = .ok (.ireturn, 1) := by decide +kernel
theorem dL_cut_30 : decode cL_cut 30 = .ok (.iconst 0, 1) := by decide +kernel
theorem dL_cut_31 : decode cL_cut 31 = .ok (.ireturn, 1) := by decide +kernel
theorem dL_lead_0 : decode cL_lead 0 = .ok (.aload_n 2, 1) := by decide +kernel
theorem dL_lead_1 : decode cL_lead 1 = .ok (.iconst 0, 1) := by decide +kernel
theorem dL_lead_2 : decode cL_lead 2 = .ok (.aload_n 0, 1) := by decide +kernel
theorem dL_lead_3 : decode cL_lead 3 = .ok (.iload_n 1, 1) := by decide +kernel
theorem dL_lead_4 : decode cL_lead 4 = .ok (.invokevirtual 58, 3) := by decide +kernel
theorem dL_lead_7 : decode cL_lead 7 = .ok (.i2l, 1) := by decide +kernel
theorem dL_lead_8 : decode cL_lead 8 = .ok (.lastore, 1) := by decide +kernel
theorem dL_lead_9 : decode cL_lead 9 = .ok (.goto 6, 3) := by decide +kernel
theorem dL_lead_12 : decode cL_lead 12 = .ok (.astore_n 3, 1) := by decide +kernel
theorem dL_lead_13 : decode cL_lead 13 = .ok (.iconst 1, 1) := by decide +kernel
theorem dL_lead_14 : decode cL_lead 14 = .ok (.ireturn, 1) := by decide +kernel
theorem dL_lead_15 : decode cL_lead 15 = .ok (.iconst 0, 1) := by decide +kernel
theorem dL_lead_16 : decode cL_lead 16 = .ok (.ireturn, 1) := by decide +kernel
theorem dL_law_0 : decode cL_law 0 = .ok (.new 8, 3) := by decide +kernel
theorem dL_law_3 : decode cL_law 3 = .ok (.dup, 1) := by decide +kernel
theorem dL_law_4 : decode cL_law 4 = .ok (.invokespecial 61, 3) := by decide +kernel
theorem dL_law_7 : decode cL_law 7 = .ok (.astore_n 1, 1) := by decide +kernel
theorem dL_law_8 : decode cL_law 8 = .ok (.new 62, 3) := by decide +kernel
theorem dL_law_11 : decode cL_law 11 = .ok (.dup, 1) := by decide +kernel
theorem dL_law_12 : decode cL_law 12 = .ok (.invokespecial 64, 3) := by decide +kernel
theorem dL_law_15 : decode cL_law 15 = .ok (.astore_n 2, 1) := by decide +kernel
theorem dL_law_16 : decode cL_law 16 = .ok (.iconst 1, 1) := by decide +kernel
theorem dL_law_17 : decode cL_law 17 = .ok (.newarray .long, 2) := by decide +kernel
theorem dL_law_19 : decode cL_law 19 = .ok (.astore_n 3, 1) := by decide +kernel
theorem dL_law_20 : decode cL_law 20 = .ok (.iconst 0, 1) := by decide +kernel
theorem dL_law_21 : decode cL_law 21 = .ok (.istore 4, 2) := by decide +kernel
theorem dL_law_23 : decode cL_law 23 = .ok (.iload 4, 2) := by decide +kernel
theorem dL_law_25 : decode cL_law 25 = .ok (.aload_n 0, 1) := by decide +kernel
theorem dL_law_26 : decode cL_law 26 = .ok (.arraylength, 1) := by decide +kernel
theorem dL_law_27 : decode cL_law 27 = .ok (.bipush 6, 2) := by decide +kernel
theorem dL_law_29 : decode cL_law 29 = .ok (.isub, 1) := by decide +kernel
theorem dL_law_30 : decode cL_law 30 = .ok (.if_icmp .gt 761, 3) := by decide +kernel
theorem dL_law_33 : decode cL_law 33 = .ok (.aload_n 0, 1) := by decide +kernel
theorem dL_law_34 : decode cL_law 34 = .ok (.iload 4, 2) := by decide +kernel
theorem dL_law_36 : decode cL_law 36 = .ok (.iaload, 1) := by decide +kernel
theorem dL_law_37 : decode cL_law 37 = .ok (.bipush 31, 2) := by decide +kernel
theorem dL_law_39 : decode cL_law 39 = .ok (.iand, 1) := by decide +kernel
theorem dL_law_40 : decode cL_law 40 = .ok (.tableswitch 745 0 19 #[96, 169, 225, 238, 266, 306, 346, 386, 414, 427, 455, 468, 483, 511, 539, 567, 623, 691, 719, 732], 96) := by decide +kernel
theorem dL_law_136 : decode cL_law 136 = .ok (.aload_n 1, 1) := by decide +kernel
theorem dL_law_137 : decode cL_law 137 = .ok (.aload_n 0, 1) := by decide +kernel
theorem dL_law_138 : decode cL_law 138 = .ok (.iload 4, 2) := by decide +kernel
theorem dL_law_140 : decode cL_law 140 = .ok (.iconst 1, 1) := by decide +kernel
theorem dL_law_141 : decode cL_law 141 = .ok (.iadd, 1) := by decide +kernel
theorem dL_law_142 : decode cL_law 142 = .ok (.iaload, 1) := by decide +kernel
theorem dL_law_143 : decode cL_law 143 = .ok (.aload_n 0, 1) := by decide +kernel
theorem dL_law_144 : decode cL_law 144 = .ok (.iload 4, 2) := by decide +kernel
theorem dL_law_146 : decode cL_law 146 = .ok (.iconst 2, 1) := by decide +kernel
theorem dL_law_147 : decode cL_law 147 = .ok (.iadd, 1) := by decide +kernel
theorem dL_law_148 : decode cL_law 148 = .ok (.iaload, 1) := by decide +kernel
theorem dL_law_149 : decode cL_law 149 = .ok (.aload_n 0, 1) := by decide +kernel
theorem dL_law_150 : decode cL_law 150 = .ok (.iload 4, 2) := by decide +kernel
theorem dL_law_152 : decode cL_law 152 = .ok (.iconst 3, 1) := by decide +kernel
theorem dL_law_153 : decode cL_law 153 = .ok (.iadd, 1) := by decide +kernel
theorem dL_law_154 : decode cL_law 154 = .ok (.iaload, 1) := by decide +kernel
theorem dL_law_155 : decode cL_law 155 = .ok (.aload_n 0, 1) := by decide +kernel
theorem dL_law_156 : decode cL_law 156 = .ok (.iload 4, 2) := by decide +kernel
theorem dL_law_158 : decode cL_law 158 = .ok (.iconst 4, 1) := by decide +kernel
theorem dL_law_159 : decode cL_law 159 = .ok (.iadd, 1) := by decide +kernel
theorem dL_law_160 : decode cL_law 160 = .ok (.iaload, 1) := by decide +kernel
theorem dL_law_161 : decode cL_law 161 = .ok (.aload_n 0, 1) := by decide +kernel
theorem dL_law_162 : decode cL_law 162 = .ok (.iload 4, 2) := by decide +kernel
theorem dL_law_164 : decode cL_law 164 = .ok (.iconst 5, 1) := by decide +kernel
theorem dL_law_165 : decode cL_law 165 = .ok (.iadd, 1) := by decide +kernel
theorem dL_law_166 : decode cL_law 166 = .ok (.iaload, 1) := by decide +kernel
theorem dL_law_167 : decode cL_law 167 = .ok (.invokevirtual 65, 3) := by decide +kernel
theorem dL_law_170 : decode cL_law 170 = .ok (.pop, 1) := by decide +kernel
theorem dL_law_171 : decode cL_law 171 = .ok (.aload_n 2, 1) := by decide +kernel
theorem dL_law_172 : decode cL_law 172 = .ok (.aload_n 0, 1) := by decide +kernel
theorem dL_law_173 : decode cL_law 173 = .ok (.iload 4, 2) := by decide +kernel
theorem dL_law_175 : decode cL_law 175 = .ok (.iconst 1, 1) := by decide +kernel
theorem dL_law_176 : decode cL_law 176 = .ok (.iadd, 1) := by decide +kernel
theorem dL_law_177 : decode cL_law 177 = .ok (.iaload, 1) := by decide +kernel
theorem dL_law_178 : decode cL_law 178 = .ok (.aload_n 0, 1) := by decide +kernel
theorem dL_law_179 : decode cL_law 179 = .ok (.iload 4, 2) := by decide +kernel
theorem dL_law_181 : decode cL_law 181 = .ok (.iconst 2, 1) := by decide +kernel
theorem dL_law_182 : decode cL_law 182 = .ok (.iadd, 1) := by decide +kernel
theorem dL_law_183 : decode cL_law 183 = .ok (.iaload, 1) := by decide +kernel
theorem dL_law_184 : decode cL_law 184 = .ok (.aload_n 0, 1) := by decide +kernel
theorem dL_law_185 : decode cL_law 185 = .ok (.iload 4, 2) := by decide +kernel
theorem dL_law_187 : decode cL_law 187 = .ok (.iconst 3, 1) := by decide +kernel
theorem dL_law_188 : decode cL_law 188 = .ok (.iadd, 1) := by decide +kernel
theorem dL_law_189 : decode cL_law 189 = .ok (.iaload, 1) := by decide +kernel
theorem dL_law_190 : decode cL_law 190 = .ok (.aload_n 0, 1) := by decide +kernel
theorem dL_law_191 : decode cL_law 191 = .ok (.iload 4, 2) := by decide +kernel
theorem dL_law_193 : decode cL_law 193 = .ok (.iconst 4, 1) := by decide +kernel
theorem dL_law_194 : decode cL_law 194 = .ok (.iadd, 1) := by decide +kernel
theorem dL_law_195 : decode cL_law 195 = .ok (.iaload, 1) := by decide +kernel
theorem dL_law_196 : decode cL_law 196 = .ok (.aload_n 0, 1) := by decide +kernel
theorem dL_law_197 : decode cL_law 197 = .ok (.iload 4, 2) := by decide +kernel
theorem dL_law_199 : decode cL_law 199 = .ok (.iconst 5, 1) := by decide +kernel
theorem dL_law_200 : decode cL_law 200 = .ok (.iadd, 1) := by decide +kernel
theorem dL_law_201 : decode cL_law 201 = .ok (.iaload, 1) := by decide +kernel
theorem dL_law_202 : decode cL_law 202 = .ok (.invokevirtual 69, 3) := by decide +kernel
theorem dL_law_205 : decode cL_law 205 = .ok (.pop, 1) := by decide +kernel
theorem dL_law_206 : decode cL_law 206 = .ok (.goto 579, 3) := by decide +kernel
theorem dL_law_209 : decode cL_law 209 = .ok (.aload_n 1, 1) := by decide +kernel
theorem dL_law_210 : decode cL_law 210 = .ok (.aload_n 0, 1) := by decide +kernel
theorem dL_law_211 : decode cL_law 211 = .ok (.iload 4, 2) := by decide +kernel
theorem dL_law_213 : decode cL_law 213 = .ok (.iconst 1, 1) := by decide +kernel
theorem dL_law_214 : decode cL_law 214 = .ok (.iadd, 1) := by decide +kernel
theorem dL_law_215 : decode cL_law 215 = .ok (.iaload, 1) := by decide +kernel
theorem dL_law_216 : decode cL_law 216 = .ok (.aload_n 3, 1) := by decide +kernel
theorem dL_law_217 : decode cL_law 217 = .ok (.invokestatic 70, 3) := by decide +kernel
theorem dL_law_220 : decode cL_law 220 = .ok (.istore 5, 2) := by decide +kernel
theorem dL_law_222 : decode cL_law 222 = .ok (.aload_n 2, 1) := by decide +kernel
theorem dL_law_223 : decode cL_law 223 = .ok (.aload_n 0, 1) := by decide +kernel
theorem dL_law_224 : decode cL_law 224 = .ok (.iload 4, 2) := by decide +kernel
theorem dL_law_226 : decode cL_law 226 = .ok (.iconst 1, 1) := by decide +kernel
theorem dL_law_227 : decode cL_law 227 = .ok (.iadd, 1) := by decide +kernel
theorem dL_law_228 : decode cL_law 228 = .ok (.iaload, 1) := by decide +kernel
theorem dL_law_229 : decode cL_law 229 = .ok (.invokevirtual 75, 3) := by decide +kernel
theorem dL_law_232 : decode cL_law 232 = .ok (.istore 6, 2) := by decide +kernel
theorem dL_law_234 : decode cL_law 234 = .ok (.aload_n 2, 1) := by decide +kernel
theorem dL_law_235 : decode cL_law 235 = .ok (.invokevirtual 76, 3) := by decide +kernel
theorem dL_law_238 : decode cL_law 238 = .ok (.iload 5, 2) := by decide +kernel
theorem dL_law_240 : decode cL_law 240 = .ok (.if_icmp .eq 5, 3) := by decide +kernel
theorem dL_law_243 : decode cL_law 243 = .ok (.iconst 0, 1) := by decide +kernel
theorem dL_law_244 : decode cL_law 244 = .ok (.ireturn, 1) := by decide +kernel
theorem dL_law_245 : decode cL_law 245 = .ok (.iload 5, 2) := by decide +kernel
theorem dL_law_247 : decode cL_law 247 = .ok (.ifCond .ne 15, 3) := by decide +kernel
theorem dL_law_250 : decode cL_law 250 = .ok (.aload_n 3, 1) := by decide +kernel
theorem dL_law_251 : decode cL_law 251 = .ok (.iconst 0, 1) := by decide +kernel
theorem dL_law_252 : decode cL_law 252 = .ok (.laload, 1) := by decide +kernel
theorem dL_law_253 : decode cL_law 253 = .ok (.iload 6, 2) := by decide +kernel
theorem dL_law_255 : decode cL_law 255 = .ok (.i2l, 1) := by decide +kernel
theorem dL_law_256 : decode cL_law 256 = .ok (.lcmp, 1) := by decide +kernel
theorem dL_law_257 : decode cL_law 257 = .ok (.ifCond .eq 5, 3) := by decide +kernel
theorem dL_law_260 : decode cL_law 260 = .ok (.iconst 0, 1) := by decide +kernel
theorem dL_law_261 : decode cL_law 261 = .ok (.ireturn, 1) := by decide +kernel
theorem dL_law_262 : decode cL_law 262 = .ok (.goto 523, 3) := by decide +kernel
theorem dL_law_265 : decode cL_law 265 = .ok (.aload_n 1, 1) := by decide +kernel
theorem dL_law_266 : decode cL_law 266 = .ok (.invokevirtual 80, 3) := by decide +kernel
theorem dL_law_269 : decode cL_law 269 = .ok (.pop, 1) := by decide +kernel
theorem dL_law_270 : decode cL_law 270 = .ok (.aload_n 2, 1) := by decide +kernel
theorem dL_law_271 : decode cL_law 271 = .ok (.invokevirtual 83, 3) := by decide +kernel
theorem dL_law_274 : decode cL_law 274 = .ok (.pop, 1) := by decide +kernel
theorem dL_law_275 : decode cL_law 275 = .ok (.goto 510, 3) := by decide +kernel
theorem dL_law_278 : decode cL_law 278 = .ok (.aload_n 1, 1) := by decide +kernel
theorem dL_law_279 : decode cL_law 279 = .ok (.aload_n 0, 1) := by decide +kernel
theorem dL_law_280 : decode cL_law 280 = .ok (.iload 4, 2) := by decide +kernel
theorem dL_law_282 : decode cL_law 282 = .ok (.iconst 1, 1) := by decide +kernel
theorem dL_law_283 : decode cL_law 283 = .ok (.iadd, 1) := by decide +kernel
theorem dL_law_284 : decode cL_law 284 = .ok (.iaload, 1) := by decide +kernel
theorem dL_law_285 : decode cL_law 285 = .ok (.aload_n 3, 1) := by decide +kernel
theorem dL_law_286 : decode cL_law 286 = .ok (.invokestatic 84, 3) := by decide +kernel
theorem dL_law_289 : decode cL_law 289 = .ok (.istore 5, 2) := by decide +kernel
theorem dL_law_291 : decode cL_law 291 = .ok (.aload_n 2, 1) := by decide +kernel
