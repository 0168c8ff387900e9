theorem dJ0_charAt_5068e_0 : decode cJ0_charAt_5068e 0 = .ok (.aload_n 0, 1) := by decide +kernel
theorem dJ0_charAt_5068e_1 : decode cJ0_charAt_5068e 1 = .ok (.invokevirtual 492, 3) := by decide +kernel
theorem dJ0_charAt_5068e_11 : decode cJ0_charAt_5068e 11 = .ok (.iload_n 1, 1) := by decide +kernel
theorem dJ0_charAt_5068e_12 : decode cJ0_charAt_5068e 12 = .ok (.invokestatic 495, 3) := by decide +kernel
theorem dJ0_charAt_5068e_15 : decode cJ0_charAt_5068e 15 = .ok (.ireturn, 1) := by decide +kernel
theorem dJ0_charAt_5068e_4 : decode cJ0_charAt_5068e 4 = .ok (.ifCond .eq 12, 3) := by decide +kernel
theorem dJ0_charAt_5068e_7 : decode cJ0_charAt_5068e 7 = .ok (.aload_n 0, 1) := by decide +kernel
theorem dJ0_charAt_5068e_8 : decode cJ0_charAt_5068e 8 = .ok (.getfield 9, 3) := by decide +kernel
theorem dJ0_checkIndex_df160_0 : decode cJ0_checkIndex_df160 0 = .ok (.iload_n 0, 1) := by decide +kernel
theorem dJ0_checkIndex_df160_1 : decode cJ0_checkIndex_df160 1 = .ok (.iload_n 1, 1) := by decide +kernel
theorem dJ0_checkIndex_df160_2 : decode cJ0_checkIndex_df160 2 = .ok (.getstatic 1053, 3) := by decide +kernel
theorem dJ0_checkIndex_df160_5 : decode cJ0_checkIndex_df160 5 = .ok (.invokestatic 1059, 3) := by decide +kernel
theorem dJ0_checkIndex_df160_8 : decode cJ0_checkIndex_df160 8 = .ok (.pop, 1) := by decide +kernel
theorem dJ0_checkIndex_df160_9 : decode cJ0_checkIndex_df160 9 = .ok (.return_, 1) := by decide +kernel
theorem dJ0_coder_7d493_0 : decode cJ0_coder_7d493 0 = .ok (.getstatic 38, 3) := by decide +kernel
theorem dJ0_coder_7d493_10 : decode cJ0_coder_7d493 10 = .ok (.goto 4, 3) := by decide +kernel
theorem dJ0_coder_7d493_14 : decode cJ0_coder_7d493 14 = .ok (.ireturn, 1) := by decide +kernel
theorem dJ0_coder_7d493_3 : decode cJ0_coder_7d493 3 = .ok (.ifCond .eq 10, 3) := by decide +kernel
theorem dJ0_coder_7d493_6 : decode cJ0_coder_7d493 6 = .ok (.aload_n 0, 1) := by decide +kernel
theorem dJ0_coder_7d493_7 : decode cJ0_coder_7d493 7 = .ok (.getfield 15, 3) := by decide +kernel
theorem dJ0_isLatin1_aae02_0 : decode cJ0_isLatin1_aae02 0 = .ok (.getstatic 38, 3) := by decide +kernel
theorem dJ0_isLatin1_aae02_10 : decode cJ0_isLatin1_aae02 10 = .ok (.ifCond .ne 7, 3) := by decide +kernel
theorem dJ0_isLatin1_aae02_13 : decode cJ0_isLatin1_aae02 13 = .ok (.iconst 1, 1) := by decide +kernel
theorem dJ0_isLatin1_aae02_14 : decode cJ0_isLatin1_aae02 14 = .ok (.goto 4, 3) := by decide +kernel
theorem dJ0_isLatin1_aae02_18 : decode cJ0_isLatin1_aae02 18 = .ok (.ireturn, 1) := by decide +kernel
theorem dJ0_isLatin1_aae02_3 : decode cJ0_isLatin1_aae02 3 = .ok (.ifCond .eq 14, 3) := by decide +kernel
theorem dJ0_isLatin1_aae02_6 : decode cJ0_isLatin1_aae02 6 = .ok (.aload_n 0, 1) := by decide +kernel
theorem dJ0_isLatin1_aae02_7 : decode cJ0_isLatin1_aae02 7 = .ok (.getfield 15, 3) := by decide +kernel
theorem dJ0_length_8abf5_0 : decode cJ0_length_8abf5 0 = .ok (.aload_n 0, 1) := by decide +kernel
theorem dJ0_length_8abf5_1 : decode cJ0_length_8abf5 1 = .ok (.getfield 9, 3) := by decide +kernel
theorem dJ0_length_8abf5_10 : decode cJ0_length_8abf5 10 = .ok (.ireturn, 1) := by decide +kernel
theorem dJ0_length_8abf5_4 : decode cJ0_length_8abf5 4 = .ok (.arraylength, 1) := by decide +kernel
theorem dJ0_length_8abf5_5 : decode cJ0_length_8abf5 5 = .ok (.aload_n 0, 1) := by decide +kernel
theorem dJ0_length_8abf5_6 : decode cJ0_length_8abf5 6 = .ok (.invokevirtual 335, 3) := by decide +kernel
theorem dJ0_length_8abf5_9 : decode cJ0_length_8abf5 9 = .ok (.ishr, 1) := by decide +kernel
theorem dJ1_charAt_3b067_0 : decode cJ1_charAt_3b067 0 = .ok (.iload_n 1, 1) := by decide +kernel
theorem dJ1_charAt_3b067_1 : decode cJ1_charAt_3b067 1 = .ok (.aload_n 0, 1) := by decide +kernel
theorem dJ1_charAt_3b067_12 : decode cJ1_charAt_3b067 12 = .ok (.iand, 1) := by decide +kernel
theorem dJ1_charAt_3b067_13 : decode cJ1_charAt_3b067 13 = .ok (.i2c, 1) := by decide +kernel
theorem dJ1_charAt_3b067_14 : decode cJ1_charAt_3b067 14 = .ok (.ireturn, 1) := by decide +kernel
theorem dJ1_charAt_3b067_2 : decode cJ1_charAt_3b067 2 = .ok (.arraylength, 1) := by decide +kernel
theorem dJ1_charAt_3b067_3 : decode cJ1_charAt_3b067 3 = .ok (.invokestatic 9, 3) := by decide +kernel
theorem dJ1_charAt_3b067_6 : decode cJ1_charAt_3b067 6 = .ok (.aload_n 0, 1) := by decide +kernel
theorem dJ1_charAt_3b067_7 : decode cJ1_charAt_3b067 7 = .ok (.iload_n 1, 1) := by decide +kernel
theorem dJ1_charAt_3b067_8 : decode cJ1_charAt_3b067 8 = .ok (.baload, 1) := by decide +kernel
theorem dJ1_charAt_3b067_9 : decode cJ1_charAt_3b067 9 = .ok (.sipush 255, 3) := by decide +kernel
theorem dJ3_checkIndex_8e157_0 : decode cJ3_checkIndex_8e157 0 = .ok (.iload_n 0, 1) := by decide +kernel
theorem dJ3_checkIndex_8e157_1 : decode cJ3_checkIndex_8e157 1 = .ok (.ifCond .lt 8, 3) := by decide +kernel
theorem dJ3_checkIndex_8e157_16 : decode cJ3_checkIndex_8e157 16 = .ok (.iload_n 0, 1) := by decide +kernel
theorem dJ3_checkIndex_8e157_17 : decode cJ3_checkIndex_8e157 17 = .ok (.ireturn, 1) := by decide +kernel
theorem dJ3_checkIndex_8e157_4 : decode cJ3_checkIndex_8e157 4 = .ok (.iload_n 0, 1) := by decide +kernel
theorem dJ3_checkIndex_8e157_5 : decode cJ3_checkIndex_8e157 5 = .ok (.iload_n 1, 1) := by decide +kernel
theorem dJ3_checkIndex_8e157_6 : decode cJ3_checkIndex_8e157 6 = .ok (.if_icmp .lt 10, 3) := by decide +kernel
theorem dL_law_250 : decode cL_law 250 = .ok (.aload_n 3, 1) := by decide +kernel
theorem dL_law_251 : decode cL_law 251 = .ok (.iconst 0, 1) := by decide +kernel
theorem dL_law_252 : decode cL_law 252 = .ok (.laload, 1) := by decide +kernel
theorem dL_law_253 : decode cL_law 253 = .ok (.iload 6, 2) := by decide +kernel
theorem dL_law_255 : decode cL_law 255 = .ok (.i2l, 1) := by decide +kernel
theorem dL_law_256 : decode cL_law 256 = .ok (.lcmp, 1) := by decide +kernel
theorem dL_law_257 : decode cL_law 257 = .ok (.ifCond .eq 5, 3) := by decide +kernel
theorem dL_law_877 : decode cL_law 877 = .ok (.aload_n 3, 1) := by decide +kernel
theorem dL_law_878 : decode cL_law 878 = .ok (.iconst 0, 1) := by decide +kernel
theorem dL_law_879 : decode cL_law 879 = .ok (.laload, 1) := by decide +kernel
theorem dL_law_880 : decode cL_law 880 = .ok (.iload 6, 2) := by decide +kernel
theorem dL_law_882 : decode cL_law 882 = .ok (.i2l, 1) := by decide +kernel
theorem dL_law_883 : decode cL_law 883 = .ok (.lcmp, 1) := by decide +kernel
theorem dL_law_884 : decode cL_law 884 = .ok (.ifCond .eq 5, 3) := by decide +kernel
theorem dX9_expect_0 : decode cX9_expect 0 = .ok (.aload_n 0, 1) := by decide +kernel
theorem dX9_expect_1 : decode cX9_expect 1 = .ok (.invokevirtual 69, 3) := by decide +kernel
theorem dX9_expect_4 : decode cX9_expect 4 = .ok (.ifCond .ne 4, 3) := by decide +kernel
theorem dX9_expect_7 : decode cX9_expect 7 = .ok (.return_, 1) := by decide +kernel
theorem dX9_isGood_11 : decode cX9_isGood 11 = .ok (.iconst 0, 1) := by decide +kernel
theorem dX9_load_100 : decode cX9_load 100 = .ok (.getfield 24, 3) := by decide +kernel
theorem dX9_load_103 : decode cX9_load 103 = .ok (.iload_n 2, 1) := by decide +kernel
theorem dX9_load_104 : decode cX9_load 104 = .ok (.invokestatic 36, 3) := by decide +kernel
theorem dX9_load_107 : decode cX9_load 107 = .ok (.aload_n 0, 1) := by decide +kernel
theorem dX9_load_108 : decode cX9_load 108 = .ok (.bipush 59, 2) := by decide +kernel
theorem dX9_load_110 : decode cX9_load 110 = .ok (.invokevirtual 108, 3) := by decide +kernel
theorem dX9_load_113 : decode cX9_load 113 = .ok (.aload_n 0, 1) := by decide +kernel
theorem dX9_load_114 : decode cX9_load 114 = .ok (.invokevirtual 69, 3) := by decide +kernel
theorem dX9_load_117 : decode cX9_load 117 = .ok (.ifCond .eq 18, 3) := by decide +kernel
theorem dX9_load_135 : decode cX9_load 135 = .ok (.aload_n 0, 1) := by decide +kernel
theorem dX9_load_136 : decode cX9_load 136 = .ok (.aload_n 0, 1) := by decide +kernel
theorem dX9_load_137 : decode cX9_load 137 = .ok (.getfield 62, 3) := by decide +kernel
theorem dX9_load_140 : decode cX9_load 140 = .ok (.putfield 13, 3) := by decide +kernel
theorem dX9_load_143 : decode cX9_load 143 = .ok (.aload_n 0, 1) := by decide +kernel
theorem dX9_load_144 : decode cX9_load 144 = .ok (.invokevirtual 69, 3) := by decide +kernel
theorem dX9_load_147 : decode cX9_load 147 = .ok (.ifCond .ne 8, 3) := by decide +kernel
theorem dX9_load_150 : decode cX9_load 150 = .ok (.aload_n 0, 1) := by decide +kernel
theorem dX9_load_151 : decode cX9_load 151 = .ok (.getfield 59, 3) := by decide +kernel
theorem dX9_load_154 : decode cX9_load 154 = .ok (.ireturn, 1) := by decide +kernel
theorem dX9_load_22 : decode cX9_load 22 = .ok (.iconst 0, 1) := by decide +kernel
theorem dX9_load_32 : decode cX9_load 32 = .ok (.aload_n 0, 1) := by decide +kernel
theorem dX9_load_33 : decode cX9_load 33 = .ok (.iconst 0, 1) := by decide +kernel
theorem dX9_load_34 : decode cX9_load 34 = .ok (.putfield 47, 3) := by decide +kernel
theorem dX9_load_37 : decode cX9_load 37 = .ok (.aload_n 0, 1) := by decide +kernel
theorem dX9_load_38 : decode cX9_load 38 = .ok (.iload_n 1, 1) := by decide +kernel
theorem dX9_load_39 : decode cX9_load 39 = .ok (.putfield 50, 3) := by decide +kernel
theorem dX9_load_42 : decode cX9_load 42 = .ok (.aload_n 0, 1) := by decide +kernel
theorem dX9_load_43 : decode cX9_load 43 = .ok (.iconst 0, 1) := by decide +kernel
theorem dX9_load_44 : decode cX9_load 44 = .ok (.putfield 53, 3) := by decide +kernel
theorem dX9_load_47 : decode cX9_load 47 = .ok (.aload_n 0, 1) := by decide +kernel
theorem dX9_load_48 : decode cX9_load 48 = .ok (.iconst 0, 1) := by decide +kernel
theorem dX9_load_49 : decode cX9_load 49 = .ok (.putfield 59, 3) := by decide +kernel
theorem dX9_load_52 : decode cX9_load 52 = .ok (.aload_n 0, 1) := by decide +kernel
theorem dX9_load_53 : decode cX9_load 53 = .ok (.iconst (-1), 1) := by decide +kernel
theorem dX9_load_54 : decode cX9_load 54 = .ok (.putfield 62, 3) := by decide +kernel
theorem dX9_load_57 : decode cX9_load 57 = .ok (.aload_n 0, 1) := by decide +kernel
theorem dX9_load_58 : decode cX9_load 58 = .ok (.iconst 0, 1) := by decide +kernel
theorem dX9_load_59 : decode cX9_load 59 = .ok (.putfield 102, 3) := by decide +kernel
theorem dX9_load_62 : decode cX9_load 62 = .ok (.aload_n 0, 1) := by decide +kernel
theorem dX9_load_63 : decode cX9_load 63 = .ok (.iconst 0, 1) := by decide +kernel
theorem dX9_load_64 : decode cX9_load 64 = .ok (.putfield 136, 3) := by decide +kernel
theorem dX9_load_67 : decode cX9_load 67 = .ok (.aload_n 0, 1) := by decide +kernel
theorem dX9_load_68 : decode cX9_load 68 = .ok (.iconst 0, 1) := by decide +kernel
theorem dX9_load_69 : decode cX9_load 69 = .ok (.putfield 139, 3) := by decide +kernel
theorem dX9_load_72 : decode cX9_load 72 = .ok (.aload_n 0, 1) := by decide +kernel
theorem dX9_load_73 : decode cX9_load 73 = .ok (.ldc 112, 2) := by decide +kernel
theorem dX9_load_75 : decode cX9_load 75 = .ok (.invokevirtual 114, 3) := by decide +kernel
theorem dX9_load_78 : decode cX9_load 78 = .ok (.ifCond .ne 13, 3) := by decide +kernel
theorem dX9_load_81 : decode cX9_load 81 = .ok (.aload_n 0, 1) := by decide +kernel
theorem dX9_load_82 : decode cX9_load 82 = .ok (.bipush (-2), 2) := by decide +kernel
theorem dX9_load_84 : decode cX9_load 84 = .ok (.aload_n 0, 1) := by decide +kernel
theorem dX9_load_85 : decode cX9_load 85 = .ok (.getfield 53, 3) := by decide +kernel
theorem dX9_load_88 : decode cX9_load 88 = .ok (.invokevirtual 86, 3) := by decide +kernel
theorem dX9_load_91 : decode cX9_load 91 = .ok (.aload_n 0, 1) := by decide +kernel
theorem dX9_load_92 : decode cX9_load 92 = .ok (.iconst 1, 1) := by decide +kernel
theorem dX9_load_93 : decode cX9_load 93 = .ok (.bipush 8, 2) := by decide +kernel
theorem dX9_load_95 : decode cX9_load 95 = .ok (.invokevirtual 124, 3) := by decide +kernel
theorem dX9_load_98 : decode cX9_load 98 = .ok (.istore_n 2, 1) := by decide +kernel
theorem dX9_load_99 : decode cX9_load 99 = .ok (.aload_n 0, 1) := by decide +kernel
theorem dX9_number_0 : decode cX9_number 0 = .ok (.aload_n 0, 1) := by decide +kernel
theorem dX9_number_1 : decode cX9_number 1 = .ok (.invokevirtual 69, 3) := by decide +kernel
theorem dX9_number_4 : decode cX9_number 4 = .ok (.ifCond .ne 5, 3) := by decide +kernel
theorem dX9_number_7 : decode cX9_number 7 = .ok (.iconst 0, 1) := by decide +kernel
theorem dX9_number_8 : decode cX9_number 8 = .ok (.ireturn, 1) := by decide +kernel
theorem dX9_report_0 : decode cX9_report 0 = .ok (.aload_n 0, 1) := by decide +kernel
theorem dX9_report_1 : decode cX9_report 1 = .ok (.getfield 59, 3) := by decide +kernel
theorem dX9_report_10 : decode cX9_report 10 = .ok (.putfield 59, 3) := by decide +kernel
theorem dX9_report_13 : decode cX9_report 13 = .ok (.aload_n 0, 1) := by decide +kernel
theorem dX9_report_14 : decode cX9_report 14 = .ok (.iload_n 2, 1) := by decide +kernel
theorem dX9_report_15 : decode cX9_report 15 = .ok (.putfield 62, 3) := by decide +kernel
theorem dX9_report_18 : decode cX9_report 18 = .ok (.return_, 1) := by decide +kernel
theorem dX9_report_4 : decode cX9_report 4 = .ok (.ifCond .eq 4, 3) := by decide +kernel
theorem dX9_report_8 : decode cX9_report 8 = .ok (.aload_n 0, 1) := by decide +kernel
theorem dX9_report_9 : decode cX9_report 9 = .ok (.iload_n 1, 1) := by decide +kernel
theorem dX9_takeWord_0 : decode cX9_takeWord 0 = .ok (.aload_n 0, 1) := by decide +kernel
theorem dX9_takeWord_1 : decode cX9_takeWord 1 = .ok (.invokevirtual 69, 3) := by decide +kernel
theorem dX9_takeWord_10 : decode cX9_takeWord 10 = .ok (.invokevirtual 73, 3) := by decide +kernel
theorem dX9_takeWord_13 : decode cX9_takeWord 13 = .ok (.pop, 1) := by decide +kernel
theorem dX9_takeWord_14 : decode cX9_takeWord 14 = .ok (.iconst 0, 1) := by decide +kernel
theorem dX9_takeWord_15 : decode cX9_takeWord 15 = .ok (.istore_n 2, 1) := by decide +kernel
theorem dX9_takeWord_16 : decode cX9_takeWord 16 = .ok (.iload_n 2, 1) := by decide +kernel
theorem dX9_takeWord_17 : decode cX9_takeWord 17 = .ok (.aload_n 1, 1) := by decide +kernel
theorem dX9_takeWord_18 : decode cX9_takeWord 18 = .ok (.invokevirtual 77, 3) := by decide +kernel
theorem dX9_takeWord_21 : decode cX9_takeWord 21 = .ok (.if_icmp .ge 27, 3) := by decide +kernel
theorem dX9_takeWord_24 : decode cX9_takeWord 24 = .ok (.aload_n 0, 1) := by decide +kernel
theorem dX9_takeWord_25 : decode cX9_takeWord 25 = .ok (.aload_n 0, 1) := by decide +kernel
theorem dX9_takeWord_26 : decode cX9_takeWord 26 = .ok (.getfield 53, 3) := by decide +kernel
theorem dX9_takeWord_29 : decode cX9_takeWord 29 = .ok (.iload_n 2, 1) := by decide +kernel
theorem dX9_takeWord_30 : decode cX9_takeWord 30 = .ok (.iadd, 1) := by decide +kernel
theorem dX9_takeWord_31 : decode cX9_takeWord 31 = .ok (.invokevirtual 56, 3) := by decide +kernel
theorem dX9_takeWord_34 : decode cX9_takeWord 34 = .ok (.aload_n 1, 1) := by decide +kernel
theorem dX9_takeWord_35 : decode cX9_takeWord 35 = .ok (.iload_n 2, 1) := by decide +kernel
theorem dX9_takeWord_36 : decode cX9_takeWord 36 = .ok (.invokevirtual 82, 3) := by decide +kernel
theorem dX9_takeWord_39 : decode cX9_takeWord 39 = .ok (.if_icmp .ne 9, 3) := by decide +kernel
theorem dX9_takeWord_4 : decode cX9_takeWord 4 = .ok (.ifCond .ne 5, 3) := by decide +kernel
theorem dX9_takeWord_48 : decode cX9_takeWord 48 = .ok (.iload_n 2, 1) := by decide +kernel
theorem dX9_takeWord_49 : decode cX9_takeWord 49 = .ok (.aload_n 1, 1) := by decide +kernel
theorem dX9_takeWord_50 : decode cX9_takeWord 50 = .ok (.invokevirtual 77, 3) := by decide +kernel
theorem dX9_takeWord_53 : decode cX9_takeWord 53 = .ok (.if_icmp .lt 23, 3) := by decide +kernel
theorem dX9_takeWord_76 : decode cX9_takeWord 76 = .ok (.iconst 0, 1) := by decide +kernel
theorem dX9_takeWord_77 : decode cX9_takeWord 77 = .ok (.ireturn, 1) := by decide +kernel
theorem dX9_takeWord_9 : decode cX9_takeWord 9 = .ok (.aload_n 0, 1) := by decide +kernel
set_option maxRecDepth 20000 in
theorem ggJ0_charAt_5068e_J0_isLatin1_aae02 : GoodIn wsJ0_charAt_5068e wsJ0_isLatin1_aae02 := goodIn_r _ [6, 7, 8] (by decide +kernel) (by decide +kernel)
set_option maxRecDepth 20000 in
theorem gJ0_charAt_5068e_J0_isLatin1_aae02 : GoodIn wsJ0_charAt_5068e (wsV RJ0 492 RJ0 yJ0_isLatin1_aae02 wsJ0_isLatin1_aae02) := goodIn_app (goodIn_of _ (by decide +kernel)) ggJ0_charAt_5068e_J0_isLatin1_aae02
set_option maxRecDepth 20000 in
theorem ggJ0_charAt_5068e_J1_charAt_3b067 : GoodIn wsJ0_charAt_5068e wsJ1_charAt_3b067 := goodIn_r _ [12, 13, 14, 5, 15, 16, 17, 18, 19, 20] (by decide +kernel) (by decide +kernel)
set_option maxRecDepth 20000 in
theorem gJ0_charAt_5068e_J1_charAt_3b067 : GoodIn wsJ0_charAt_5068e (va_wsS RJ0 495 yJ1_charAt_3b067 wsJ1_charAt_3b067) := goodIn_app (goodIn_of _ (by decide +kernel)) ggJ0_charAt_5068e_J1_charAt_3b067
set_option maxRecDepth 20000 in
theorem ggJ0_checkIndex_df160_J3_checkIndex_8e157 : GoodIn wsJ0_checkIndex_df160 wsJ3_checkIndex_8e157 := goodIn_r _ [5] (by decide +kernel) (by decide +kernel)
set_option maxRecDepth 20000 in
theorem gJ0_checkIndex_df160_J3_checkIndex_8e157 : GoodIn wsJ0_checkIndex_df160 (va_wsS RJ0 1059 yJ3_checkIndex_8e157 wsJ3_checkIndex_8e157) := goodIn_app (goodIn_of _ (by decide +kernel)) ggJ0_checkIndex_df160_J3_checkIndex_8e157
set_option maxRecDepth 20000 in
theorem ggJ0_length_8abf5_J0_coder_7d493 : GoodIn wsJ0_length_8abf5 wsJ0_coder_7d493 := goodIn_r _ [6, 7, 8] (by decide +kernel) (by decide +kernel)
set_option maxRecDepth 20000 in
theorem gJ0_length_8abf5_J0_coder_7d493 : GoodIn wsJ0_length_8abf5 (wsV RJ0 335 RJ0 yJ0_coder_7d493 wsJ0_coder_7d493) := goodIn_app (goodIn_of _ (by decide +kernel)) ggJ0_length_8abf5_J0_coder_7d493
set_option maxRecDepth 20000 in
theorem ggJ1_charAt_3b067_J0_checkIndex_df160 : GoodIn wsJ1_charAt_3b067 wsJ0_checkIndex_df160 := goodIn_r _ [4, 5, 6, 7, 8, 9] (by decide +kernel) (by decide +kernel)
set_option maxRecDepth 20000 in
theorem gJ1_charAt_3b067_J0_checkIndex_df160 : GoodIn wsJ1_charAt_3b067 (va_wsS RJ1 9 yJ0_checkIndex_df160 wsJ0_checkIndex_df160) := goodIn_app (goodIn_of _ (by decide +kernel)) ggJ1_charAt_3b067_J0_checkIndex_df160
set_option maxRecDepth 20000 in
theorem gL_ask_X8_ask : GoodIn wsL_ask (wsV RL 43 RX8 yX8_ask wsX8_ask) := goodIn_app (goodIn_of _ (by decide +kernel)) ggL_ask_X8_ask
set_option maxRecDepth 20000 in
theorem ggL_cut_X8_cut : GoodIn wsL_cut wsX8_cut := goodIn_ca (goodIn_ca (goodIn_r _ [7, 8, 9, 10, 11, 12, 13, 6, 14, 15, 16, 17, 18, 19, 20, 21, 22, 23, 24, 25, 26, 27, 28, 29, 30, 31, 32, 33, 34, 35, 36, 37, 38, 39, 40, 41, 42, 43, 44, 45, 46, 47, 48, 49, 50, 51, 52, 53, 54, 55, 56, 57, 58, 59, 60, 61, 62, 63, 64, 65, 66, 67, 68, 69, 70, 71, 72, 73, 74, 75, 76, 77, 78, 79, 80, 81, 82, 83, 84, 85, 86, 87, 88, 89, 90, 91, 92, 93, 94, 95, 96, 97, 98, 99, 100, 101, 102, 103, 104, 105, 106, 107, 108, 109, 110, 111, 112, 113, 114, 115, 116, 117, 118, 119, 120, 121, 122, 123, 124, 125, 126, 127, 128, 129, 130, 131, 132, 133, 134, 135, 136, 137, 138, 139, 140, 141, 142, 143, 144, 145, 146, 147, 148, 149, 150, 151, 152, 153, 154, 155, 156, 157, 158, 159, 160, 161, 162, 163, 164, 165, 166] (by decide +kernel) (by decide +kernel)) (goodIn_sub (fun _ h => List.mem_cons_of_mem _ (List.mem_append_left _ (List.mem_append_right _ h))) (by decide +kernel))) (goodIn_sub (fun _ h => List.mem_cons_of_mem _ (List.mem_append_right _ h)) (by decide +kernel))
set_option maxRecDepth 20000 in
theorem gL_cut_X8_cut : GoodIn wsL_cut (wsV RL 54 RX8 yX8_cut wsX8_cut) := goodIn_app (goodIn_of _ (by decide +kernel)) ggL_cut_X8_cut
set_option maxRecDepth 20000 in
theorem ggL_law_L_ask : GoodIn wsL_law wsL_ask := goodIn_ca (goodIn_ca (goodIn_r _ [976, 641, 962, 977, 978, 979, 2, 980, 967, 968, 20, 646, 647, 648, 649, 650, 651, 951, 381, 382, 19, 383, 36, 370, 371, 372, 373, 374, 22, 375, 376, 377, 378, 379, 90, 40, 44, 91, 92, 93, 94, 95, 96, 97, 98, 99, 100, 380, 384, 385, 386, 51, 387, 105, 106, 107, 115, 116, 388, 389, 108, 109, 110, 390, 391, 392, 39, 393, 59, 60, 394, 186, 187, 188, 29, 395, 366, 367, 368, 121, 396, 397, 398, 43, 399, 400, 401, 402, 403, 404, 130, 131, 405, 981, 982, 983, 984, 656, 657, 658, 659, 660, 661, 662, 54, 663, 76, 77, 802, 803, 804, 805, 49, 564, 311, 312, 313, 78, 314, 315, 316, 555, 556, 557, 558, 559, 806, 807, 808, 809, 1065, 1066, 1067, 1068, 1069, 1070, 1071, 1138, 1139, 1140, 1141, 1142, 1143, 1144, 1145, 1146, 1147, 1104, 1105, 1106, 1107, 1108, 1109, 1110, 1111, 1112, 1113, 1114, 1115, 1116, 1117, 1118, 1119, 1148, 1149, 1150, 1151, 1152, 1153, 1154, 1155, 1120, 1121, 1122, 1123, 1124, 1125, 1126, 1127, 1128, 1129, 1130, 1131, 1132, 1133, 1134, 1135, 1136, 1137] (by decide +kernel) (by decide +kernel)) (goodIn_sub (fun _ h => List.mem_append_right _ h) (by decide +kernel))) (goodIn_sub (fun _ h => List.mem_append_left _ (List.mem_append_left _ (List.mem_append_right _ h))) (by decide +kernel))
set_option maxRecDepth 20000 in
theorem gL_law_L_ask : GoodIn wsL_law (va_wsS RL 119 yL_ask wsL_ask) := goodIn_app (goodIn_of _ (by decide +kernel)) ggL_law_L_ask
set_option maxRecDepth 20000 in
theorem ggL_law_L_cut : GoodIn wsL_law wsL_cut := goodIn_ca (goodIn_ca (goodIn_r _ [1018, 641, 962, 1019, 1020, 1021, 2, 1022, 967, 968, 20, 646, 647, 648, 649, 650, 651, 700, 561, 562, 19, 563, 90, 564, 311, 312, 54, 313, 78, 314, 315, 316, 370, 371, 372, 373, 374, 22, 375, 376, 377, 378, 379, 36, 40, 44, 91, 92, 93, 94, 95, 96, 97, 98, 99, 100, 380, 381, 382, 383, 384, 385, 386, 51, 387, 105, 106, 107, 115, 116, 388, 389, 108, 109, 110, 390, 391, 392, 39, 393, 59, 60, 394, 186, 187, 188, 29, 395, 366, 367, 368, 121, 396, 397, 398, 43, 399, 400, 401, 402, 403, 404, 130, 131, 405, 699, 556, 557, 558, 559, 1023, 1024, 1025, 1026, 1027, 1065, 1066, 1067, 1068, 1069, 1070, 1071, 1104, 1105, 1106, 1107, 1108, 1109, 1110, 1111, 1112, 1113, 1114, 1115, 1116, 1117, 1118, 1119, 1148, 1149, 1150, 1151, 1152, 1153, 1154, 1155, 1138, 1139, 1140, 1141, 1142, 1143, 1144, 1145, 1146, 1147, 1120, 1121, 1122, 1123, 1124, 1125, 1126, 1127, 1128, 1129, 1130] (by decide +kernel) (by decide +kernel)) (goodIn_sub (fun _ h => List.mem_append_right _ h) (by decide +kernel))) (goodIn_sub (fun _ h => List.mem_append_left _ (List.mem_append_left _ (List.mem_append_right _ h))) (by decide +kernel))
set_option maxRecDepth 20000 in
theorem gL_law_L_cut : GoodIn wsL_law (va_wsS RL 129 yL_cut wsL_cut) := goodIn_app (goodIn_of _ (by decide +kernel)) ggL_law_L_cut
set_option maxRecDepth 20000 in
theorem ggL_law_L_foretold : GoodIn wsL_law wsL_foretold := goodIn_ca (goodIn_r _ [781, 174, 782, 783, 784, 2, 785, 21, 20, 529, 530, 531, 532, 179, 180, 376, 377, 378, 19, 379, 90, 36, 40, 44, 91, 92, 93, 94, 95, 96, 97, 98, 99, 100, 380, 381, 382, 383, 384, 385, 386, 51, 387, 105, 106, 107, 115, 116, 388, 389, 108, 109, 110, 390, 391, 392, 39, 393, 59, 60, 394, 186, 187, 188, 29, 395, 366, 367, 368, 121, 396, 397, 398, 43, 399, 400, 401, 402, 403, 404, 130, 131, 405, 786, 787, 788, 789, 790, 791, 792, 793, 794, 795, 796, 797, 48, 732, 733, 734, 735, 719, 720, 721, 722, 798, 799, 800, 801, 656, 657, 658, 659, 660, 661, 662, 54, 663, 76, 77, 802, 803, 804, 805, 49, 564, 311, 312, 313, 78, 314, 315, 316, 555, 556, 557, 558, 559, 806, 807, 808, 809, 810, 811, 812, 813, 814, 815, 816, 817, 818, 112, 113, 114, 819, 820, 821, 822, 823, 824, 825, 826, 827, 828, 829, 830, 831, 832, 833, 834, 835, 836, 837, 838, 668, 669, 670, 671, 839, 840, 841, 842, 843, 844, 845, 846, 847, 848, 849, 850, 111, 767, 768, 769, 770, 851, 538, 539, 540, 541, 542, 543, 544, 1065, 1066, 1067, 1068, 1069, 1070, 1071, 1104, 1105, 1106, 1107, 1108, 1109, 1110, 1111, 1112, 1113, 1114, 1115, 1116, 1117, 1118, 1119, 1123, 1124, 1125, 1126, 1127, 1128, 1129, 1130, 1138, 1139, 1140, 1141, 1142, 1143, 1144, 1145, 1146, 1147, 1120, 1121, 1122, 1148, 1149, 1150, 1151, 1152, 1153, 1154, 1155, 1131, 1132, 1133, 1134, 1135, 1136, 1137] (by decide +kernel) (by decide +kernel)) (goodIn_sub (fun _ h => List.mem_append_left _ (List.mem_append_left _ (List.mem_append_left _ (List.mem_append_right _ h)))) (by decide +kernel))
set_option maxRecDepth 20000 in
theorem gL_law_L_foretold : GoodIn wsL_law (va_wsS RL 104 yL_foretold wsL_foretold) := goodIn_app (goodIn_of _ (by decide +kernel)) ggL_law_L_foretold
set_option maxRecDepth 20000 in
theorem ggL_law_L_lead : GoodIn wsL_law wsL_lead := goodIn_ca (goodIn_r _ [1034, 641, 1035, 1036, 1037, 2, 1038, 20, 646, 647, 648, 649, 650, 651, 370, 371, 372, 373, 374, 22, 375, 376, 377, 378, 19, 379, 90, 36, 40, 44, 91, 92, 93, 94, 95, 96, 97, 98, 99, 100, 380, 381, 382, 383, 384, 385, 386, 51, 387, 105, 106, 107, 115, 116, 388, 389, 108, 109, 110, 390, 391, 392, 39, 393, 59, 60, 394, 186, 187, 188, 29, 395, 366, 367, 368, 121, 396, 397, 398, 43, 399, 400, 401, 402, 403, 404, 130, 131, 405, 1039, 1040, 1041, 1042, 1065, 1066, 1067, 1068, 1069, 1070, 1071, 1104, 1105, 1106, 1107, 1108, 1109, 1110, 1111, 1112, 1113, 1114, 1115, 1116, 1117, 1118, 1119, 1148, 1149, 1150, 1151, 1152, 1153, 1154, 1155, 1138, 1139, 1140, 1141, 1142, 1143, 1144, 1145, 1146, 1147, 1120, 1121, 1122, 1123, 1124, 1125, 1126, 1127, 1128, 1129, 1130] (by decide +kernel) (by decide +kernel)) (goodIn_sub (fun _ h => List.mem_append_left _ (List.mem_append_left _ (List.mem_append_right _ h))) (by decide +kernel))
set_option maxRecDepth 20000 in
theorem gL_law_L_lead : GoodIn wsL_law (va_wsS RL 133 yL_lead wsL_lead) := goodIn_app (goodIn_of _ (by decide +kernel)) ggL_law_L_lead
set_option maxRecDepth 20000 in
theorem ggL_law_L_link : GoodIn wsL_law wsL_link := goodIn_ca (goodIn_r _ [694, 641, 695, 696, 697, 2, 698, 20, 646, 647, 648, 649, 650, 651, 699, 556, 557, 19, 558, 91, 559, 315, 54, 316, 700, 561, 562, 563, 90, 564, 311, 312, 313, 78, 314, 1065, 1066, 1067, 1068, 1069, 1070, 1071, 1104, 1105, 1106, 1107, 1108, 1109, 1110, 1111, 1112, 1113, 1114, 1115, 1116, 1117, 1118, 1119, 1148, 1149, 1150, 1151, 1152, 1153, 1154, 1155] (by decide +kernel) (by decide +kernel)) (goodIn_sub (fun _ h => List.mem_append_left _ (List.mem_append_left _ (List.mem_append_right _ h))) (by decide +kernel))
set_option maxRecDepth 20000 in
theorem gL_law_L_link : GoodIn wsL_law (va_wsS RL 91 yL_link wsL_link) := goodIn_app (goodIn_of _ (by decide +kernel)) ggL_law_L_link
set_option maxRecDepth 20000 in
theorem ggL_law_L_load : GoodIn wsL_law wsL_load := goodIn_ca (goodIn_r _ [173, 174, 175, 176, 177, 2, 178, 179, 180, 16, 23, 20, 181, 182, 183, 15, 184, 28, 185, 186, 187, 188, 189, 190, 191, 192, 159, 193, 194, 195, 196, 53, 54, 197, 198, 199, 200, 201, 202, 203, 204, 205, 206, 207, 208, 209, 210, 211, 212, 213, 214, 215, 216, 217, 218, 219, 220, 221, 222, 223, 224, 225, 226, 227, 228, 229, 230, 231, 232, 233, 234, 235, 236, 237, 238, 239, 240, 241, 242, 243, 244, 245, 246, 247, 248, 249, 250, 251, 252, 253, 254, 255, 256, 257, 258, 259, 260, 261, 262, 263, 264, 265, 266, 267, 268, 269, 270, 271, 272, 273, 274, 71, 72, 73, 11, 12, 74, 75, 29, 76, 77, 78, 79, 275, 276, 277, 278, 279, 280, 281, 282, 283, 284, 285, 286, 287, 288, 289, 30, 290, 291, 292, 293, 294, 295, 296, 297, 298, 299, 300, 301, 302, 303, 304, 305, 306, 307, 308, 309, 310, 311, 312, 313, 314, 315, 316, 317, 318, 319, 320, 321, 322, 323, 324, 325, 326, 327, 328, 329, 330, 331, 332, 333, 334, 335, 336, 337, 338, 339, 340, 341, 342, 343, 344, 345, 346, 347, 348, 349, 350, 351, 352, 353, 354, 355, 356, 124, 357, 358, 359, 360, 361, 362, 363, 364, 365, 366, 367, 368, 369, 81, 82, 83, 84, 85, 370, 371, 372, 373, 374, 22, 375, 376, 377, 378, 19, 379, 90, 36, 40, 44, 91, 92, 93, 94, 95, 96, 97, 98, 99, 100, 380, 381, 382, 383, 384, 385, 386, 51, 387, 105, 106, 107, 115, 116, 388, 389, 108, 109, 110, 390, 391, 392, 39, 393, 59, 60, 394, 395, 121, 396, 397, 398, 43, 399, 400, 401, 402, 403, 404, 130, 131, 405, 406, 87, 88, 89, 101, 102, 103, 104, 111, 112, 113, 114, 117, 118, 119, 120, 122, 123, 125, 126, 127, 128, 129, 1065, 1066, 1067, 1068, 1069, 1070, 1071, 1090, 1091, 1092, 1093, 1094, 1095, 1096, 1097, 1098, 1099, 1100, 1101, 1102, 1103, 1148, 1149, 1150, 1151, 1152, 1153, 1154, 1155, 1156, 1157, 1104, 1105, 1106, 1107, 1108, 1109, 1110, 1111, 1112, 1113, 1114, 1115, 1116, 1117, 1118, 1119, 1138, 1139, 1140, 1141, 1142, 1143, 1144, 1145, 1146, 1147, 1120, 1121, 1122, 1123, 1124, 1125, 1126, 1127, 1128, 1129, 1130] (by decide +kernel) (by decide +kernel)) (goodIn_sub (fun _ h => List.mem_append_left _ (List.mem_append_left _ (List.mem_append_left _ (List.mem_append_right _ h)))) (by decide +kernel))
set_option maxRecDepth 20000 in
theorem gL_law_L_load : GoodIn wsL_law (va_wsS RL 70 yL_load wsL_load) := goodIn_app (goodIn_of _ (by decide +kernel)) ggL_law_L_load
set_option maxRecDepth 20000 in
theorem ggL_law_L_message : GoodIn wsL_law wsL_message := goodIn_ca (goodIn_ca (goodIn_r _ [707, 708, 174, 709, 710, 711, 2, 712, 713, 714, 20, 529, 530, 531, 532, 179, 180, 715, 716, 717, 19, 718, 40, 92, 48, 719, 720, 721, 39, 722, 60, 59, 723, 724, 725, 47, 726, 727, 728, 729, 730, 731, 732, 733, 734, 735, 1065, 1066, 1067, 1068, 1069, 1070, 1071, 1104, 1105, 1106, 1107, 1108, 1109, 1110, 1111, 1112, 1113, 1114, 1115, 1116, 1117, 1118, 1119, 1120, 1121, 1122, 1131, 1132, 1133, 1134, 1135, 1136, 1137] (by decide +kernel) (by decide +kernel)) (goodIn_sub (fun _ h => List.mem_append_left _ (List.mem_append_right _ h)) (by decide +kernel))) (goodIn_sub (fun _ h => List.mem_append_left _ (List.mem_append_left _ (List.mem_append_left _ (List.mem_append_right _ h)))) (by decide +kernel))
set_option maxRecDepth 20000 in
theorem gL_law_L_message : GoodIn wsL_law (va_wsS RL 94 yL_message wsL_message) := goodIn_app (goodIn_of _ (by decide +kernel)) ggL_law_L_message
set_option maxRecDepth 20000 in
theorem ggL_law_L_pass : GoodIn wsL_law wsL_pass := goodIn_ca (goodIn_r _ [991, 174, 992, 993, 994, 2, 995, 179, 180, 20, 370, 371, 372, 373, 374, 22, 375, 376, 377, 378, 19, 379, 90, 36, 40, 44, 91, 92, 93, 94, 95, 96, 97, 98, 99, 100, 380, 381, 382, 383, 384, 385, 386, 51, 387, 105, 106, 107, 115, 116, 388, 389, 108, 109, 110, 390, 391, 392, 39, 393, 59, 60, 394, 186, 187, 188, 29, 395, 366, 367, 368, 121, 396, 397, 398, 43, 399, 400, 401, 402, 403, 404, 130, 131, 405, 996, 795, 796, 797, 48, 732, 733, 734, 735, 719, 720, 721, 722, 798, 799, 800, 801, 656, 657, 658, 659, 660, 661, 662, 54, 663, 76, 77, 802, 803, 804, 805, 49, 564, 311, 312, 313, 78, 314, 315, 316, 555, 556, 557, 558, 559, 806, 807, 808, 809, 810, 811, 812, 813, 814, 815, 816, 817, 818, 112, 113, 114, 819, 820, 821, 822, 823, 824, 825, 826, 827, 828, 829, 830, 831, 832, 833, 834, 835, 836, 837, 838, 668, 669, 670, 671, 839, 840, 841, 842, 843, 844, 845, 846, 847, 848, 849, 850, 111, 1065, 1066, 1067, 1068, 1069, 1070, 1071, 1104, 1105, 1106, 1107, 1108, 1109, 1110, 1111, 1112, 1113, 1114, 1115, 1116, 1117, 1118, 1119, 1138, 1139, 1140, 1141, 1142, 1143, 1144, 1145, 1146, 1147, 1120, 1121, 1122, 1123, 1124, 1125, 1126, 1127, 1128, 1129, 1130, 1148, 1149, 1150, 1151, 1152, 1153, 1154, 1155, 1131, 1132, 1133, 1134, 1135, 1136, 1137] (by decide +kernel) (by decide +kernel)) (goodIn_sub (fun _ h => List.mem_append_left _ (List.mem_append_left _ (List.mem_append_left _ (List.mem_append_right _ h)))) (by decide +kernel))
set_option maxRecDepth 20000 in
theorem gL_law_L_pass : GoodIn wsL_law (va_wsS RL 122 yL_pass wsL_pass) := goodIn_app (goodIn_of _ (by decide +kernel)) ggL_law_L_pass
set_option maxRecDepth 20000 in
theorem ggL_law_L_player : GoodIn wsL_law wsL_player := goodIn_ca (goodIn_ca (goodIn_r _ [640, 641, 174, 642, 643, 644, 2, 645, 20, 646, 647, 648, 649, 650, 651, 529, 530, 531, 532, 179, 180, 652, 653, 654, 19, 655, 380, 381, 382, 383, 36, 656, 657, 658, 659, 90, 92, 660, 661, 662, 54, 663, 76, 77, 664, 665, 666, 667, 93, 668, 669, 670, 671, 1065, 1066, 1067, 1068, 1069, 1070, 1071, 1104, 1105, 1106, 1107, 1108, 1109, 1110, 1111, 1112, 1113, 1114, 1115, 1116, 1117, 1118, 1119, 1148, 1149, 1150, 1151, 1152, 1153, 1154, 1155, 1138, 1139, 1140, 1141, 1142, 1143, 1144, 1145, 1146, 1147] (by decide +kernel) (by decide +kernel)) (goodIn_sub (fun _ h => List.mem_append_left _ (List.mem_append_left _ (List.mem_append_right _ h))) (by decide +kernel))) (goodIn_sub (fun _ h => List.mem_append_left _ (List.mem_append_left _ (List.mem_append_left _ (List.mem_append_right _ h)))) (by decide +kernel))
set_option maxRecDepth 20000 in
theorem gL_law_L_player : GoodIn wsL_law (va_wsS RL 87 yL_player wsL_player) := goodIn_app (goodIn_of _ (by decide +kernel)) ggL_law_L_player
set_option maxRecDepth 20000 in
theorem ggL_law_L_power : GoodIn wsL_law wsL_power := goodIn_ca (goodIn_r _ [1003, 641, 1004, 1005, 1006, 2, 1007, 20, 646, 647, 648, 649, 650, 651, 370, 371, 372, 373, 374, 22, 375, 376, 377, 378, 19, 379, 90, 36, 40, 44, 91, 92, 93, 94, 95, 96, 97, 98, 99, 100, 380, 381, 382, 383, 384, 385, 386, 51, 387, 105, 106, 107, 115, 116, 388, 389, 108, 109, 110, 390, 391, 392, 39, 393, 59, 60, 394, 186, 187, 188, 29, 395, 366, 367, 368, 121, 396, 397, 398, 43, 399, 400, 401, 402, 403, 404, 130, 131, 405, 951, 1008, 1009, 1010, 1011, 111, 112, 113, 114, 1065, 1066, 1067, 1068, 1069, 1070, 1071, 1104, 1105, 1106, 1107, 1108, 1109, 1110, 1111, 1112, 1113, 1114, 1115, 1116, 1117, 1118, 1119, 1148, 1149, 1150, 1151, 1152, 1153, 1154, 1155, 1138, 1139, 1140, 1141, 1142, 1143, 1144, 1145, 1146, 1147, 1120, 1121, 1122, 1123, 1124, 1125, 1126, 1127, 1128, 1129, 1130] (by decide +kernel) (by decide +kernel)) (goodIn_sub (fun _ h => List.mem_append_left _ (List.mem_append_left _ (List.mem_append_right _ h))) (by decide +kernel))
set_option maxRecDepth 20000 in
theorem gL_law_L_power : GoodIn wsL_law (va_wsS RL 125 yL_power wsL_power) := goodIn_app (goodIn_of _ (by decide +kernel)) ggL_law_L_power
set_option maxRecDepth 20000 in
theorem ggL_law_L_proposal : GoodIn wsL_law wsL_proposal := goodIn_ca (goodIn_ca (goodIn_r _ [750, 708, 174, 751, 752, 753, 2, 754, 713, 714, 20, 529, 530, 531, 532, 179, 180, 755, 756, 757, 43, 758, 400, 401, 402, 403, 404, 130, 1065, 1066, 1067, 1068, 1069, 1070, 1071, 1104, 1105, 1106, 1107, 1108, 1109, 1110, 1111, 1112, 1113, 1114, 1115, 1116, 1117, 1118, 1119, 1123, 1124, 1125, 1126, 1127, 1128, 1129, 1130] (by decide +kernel) (by decide +kernel)) (goodIn_sub (fun _ h => List.mem_append_left _ (List.mem_append_right _ h)) (by decide +kernel))) (goodIn_sub (fun _ h => List.mem_append_left _ (List.mem_append_left _ (List.mem_append_left _ (List.mem_append_right _ h)))) (by decide +kernel))
set_option maxRecDepth 20000 in
theorem gL_law_L_proposal : GoodIn wsL_law (va_wsS RL 97 yL_proposal wsL_proposal) := goodIn_app (goodIn_of _ (by decide +kernel)) ggL_law_L_proposal
set_option maxRecDepth 20000 in
theorem ggL_law_L_propose : GoodIn wsL_law wsL_propose := goodIn_ca (goodIn_ca (goodIn_r _ [961, 174, 962, 963, 964, 965, 2, 966, 179, 180, 967, 968, 20, 916, 917, 918, 19, 919, 93, 44, 380, 381, 382, 383, 36, 370, 371, 372, 373, 374, 22, 375, 376, 377, 378, 379, 90, 40, 91, 92, 94, 95, 96, 97, 98, 99, 100, 384, 385, 386, 51, 387, 105, 106, 107, 115, 116, 388, 389, 108, 109, 110, 390, 391, 392, 39, 393, 59, 60, 394, 186, 187, 188, 29, 395, 366, 367, 368, 121, 396, 397, 398, 43, 399, 400, 401, 402, 403, 404, 130, 131, 405, 969, 546, 547, 548, 549, 550, 190, 191, 551, 552, 553, 554, 555, 556, 557, 558, 559, 315, 54, 316, 560, 561, 562, 563, 564, 311, 312, 313, 78, 314, 565, 566, 567, 568, 569, 570, 571, 289, 572, 354, 353, 573, 574, 575, 576, 577, 578, 579, 580, 581, 582, 583, 584, 585, 586, 920, 921, 922, 923, 656, 657, 658, 659, 660, 661, 662, 663, 76, 77, 924, 925, 926, 927, 810, 811, 812, 813, 823, 824, 825, 826, 802, 803, 804, 805, 49, 806, 807, 808, 809, 819, 820, 821, 822, 1065, 1066, 1067, 1068, 1069, 1070, 1071, 1104, 1105, 1106, 1107, 1108, 1109, 1110, 1111, 1112, 1113, 1114, 1115, 1116, 1117, 1118, 1119, 1123, 1124, 1125, 1126, 1127, 1128, 1129, 1130, 1138, 1139, 1140, 1141, 1142, 1143, 1144, 1145, 1146, 1147, 1120, 1121, 1122, 1148, 1149, 1150, 1151, 1152, 1153, 1154, 1155, 1156, 1157, 1131, 1132, 1133, 1134, 1135, 1136, 1137] (by decide +kernel) (by decide +kernel)) (goodIn_sub (fun _ h => List.mem_append_left _ (List.mem_append_left _ (List.mem_append_left _ (List.mem_append_right _ h)))) (by decide +kernel))) (goodIn_sub (fun _ h => List.mem_append_right _ h) (by decide +kernel))
set_option maxRecDepth 20000 in
theorem gL_law_L_propose : GoodIn wsL_law (va_wsS RL 116 yL_propose wsL_propose) := goodIn_app (goodIn_of _ (by decide +kernel)) ggL_law_L_propose
set_option maxRecDepth 20000 in
theorem ggL_law_L_state : GoodIn wsL_law wsL_state := goodIn_ca (goodIn_r _ [524, 174, 525, 526, 527, 2, 528, 20, 529, 530, 531, 532, 179, 180, 533, 534, 535, 19, 536, 90, 92, 93, 40, 94, 95, 96, 97, 98, 99, 100, 537, 538, 539, 540, 380, 381, 382, 383, 36, 541, 542, 543, 544, 545, 546, 547, 548, 549, 186, 187, 188, 550, 190, 191, 551, 552, 553, 554, 555, 556, 557, 558, 91, 559, 315, 54, 316, 560, 561, 562, 563, 564, 311, 312, 313, 78, 314, 565, 566, 567, 568, 569, 570, 571, 289, 572, 354, 353, 573, 574, 575, 576, 577, 578, 579, 580, 581, 582, 583, 584, 585, 586, 1065, 1066, 1067, 1068, 1069, 1070, 1071, 1104, 1105, 1106, 1107, 1108, 1109, 1110, 1111, 1112, 1113, 1114, 1115, 1116, 1117, 1118, 1119, 1148, 1149, 1150, 1151, 1152, 1153, 1154, 1155, 1120, 1121, 1122, 1138, 1139, 1140, 1141, 1142, 1143, 1144, 1145, 1146, 1147, 1156, 1157] (by decide +kernel) (by decide +kernel)) (goodIn_sub (fun _ h => List.mem_append_left _ (List.mem_append_left _ (List.mem_append_left _ (List.mem_append_right _ h)))) (by decide +kernel))
set_option maxRecDepth 20000 in
theorem gL_law_L_state : GoodIn wsL_law (va_wsS RL 84 yL_state wsL_state) := goodIn_app (goodIn_of _ (by decide +kernel)) ggL_law_L_state
set_option maxRecDepth 20000 in
theorem ggL_law_X8_append : GoodIn wsL_law wsX8_append := goodIn_r _ [154, 16, 155, 156, 157, 15, 158, 159, 28, 160, 161, 162, 163, 1065, 1066, 1067, 1068, 1069, 1070, 1071, 1090, 1091, 1092, 1093, 1094, 1095, 1096, 1097, 1098, 1099, 1100, 1101, 1102, 1103] (by decide +kernel) (by decide +kernel)
set_option maxRecDepth 20000 in
theorem gL_law_X8_append : GoodIn wsL_law (wsV RL 65 RX8 yX8_append wsX8_append) := goodIn_app (goodIn_of _ (by decide +kernel)) ggL_law_X8_append
set_option maxRecDepth 20000 in
theorem ggL_law_X8_checksum : GoodIn wsL_law wsX8_checksum := goodIn_r _ [1058, 1059, 20, 533, 534, 535, 19, 536, 90, 92, 93, 40, 94, 95, 96, 97, 98, 99, 100, 537, 538, 539, 540, 380, 381, 382, 383, 36, 541, 542, 543, 544, 545, 546, 547, 548, 549, 186, 187, 188, 550, 190, 191, 551, 552, 553, 554, 555, 556, 557, 558, 91, 559, 315, 54, 316, 560, 561, 562, 563, 564, 311, 312, 313, 78, 314, 565, 566, 567, 568, 569, 570, 571, 289, 572, 354, 353, 573, 574, 575, 576, 577, 578, 579, 580, 581, 582, 583, 584, 585, 586, 652, 653, 654, 655, 656, 657, 658, 659, 660, 661, 662, 663, 76, 77, 664, 665, 666, 667, 668, 669, 670, 671, 715, 716, 717, 718, 48, 719, 720, 721, 39, 722, 60, 59, 723, 724, 725, 47, 726, 727, 728, 729, 730, 731, 732, 733, 734, 735, 755, 756, 757, 43, 758, 400, 401, 402, 403, 404, 130, 767, 768, 769, 770, 131, 405, 1065, 1066, 1067, 1068, 1069, 1070, 1071, 1104, 1105, 1106, 1107, 1108, 1109, 1110, 1111, 1112, 1113, 1114, 1115, 1116, 1117, 1118, 1119, 1148, 1149, 1150, 1151, 1152, 1153, 1154, 1155, 1120, 1121, 1122, 1138, 1139, 1140, 1141, 1142, 1143, 1144, 1145, 1146, 1147, 1156, 1157, 1131, 1132, 1133, 1134, 1135, 1136, 1137, 1123, 1124, 1125, 1126, 1127, 1128, 1129, 1130] (by decide +kernel) (by decide +kernel)
set_option maxRecDepth 20000 in
theorem gL_law_X8_checksum : GoodIn wsL_law (wsV RL 140 RX8 yX8_checksum wsX8_checksum) := goodIn_app (goodIn_of _ (by decide +kernel)) ggL_law_X8_checksum
set_option maxRecDepth 20000 in
theorem ggL_law_X8_errorOffset : GoodIn wsL_law wsX8_errorOffset := goodIn_r _ [517, 23, 1065, 1066, 1067, 1068, 1069, 1070, 1071] (by decide +kernel) (by decide +kernel)
set_option maxRecDepth 20000 in
theorem gL_law_X8_errorOffset : GoodIn wsL_law (wsV RL 80 RX8 yX8_errorOffset wsX8_errorOffset) := goodIn_app (goodIn_of _ (by decide +kernel)) ggL_law_X8_errorOffset
set_option maxRecDepth 20000 in
theorem ggL_law_X8_init : GoodIn wsL_law wsX8_init := goodIn_r _ [9, 10, 11, 12, 13, 14, 15, 16, 17, 18, 19, 20, 21, 22, 23, 24, 25, 26, 27, 28, 29, 30, 31, 32, 33, 34, 35, 36, 37, 38, 39, 40, 41, 42, 43, 44, 45, 46, 47, 48, 49, 50, 51, 52, 53, 54, 55, 56, 57, 58, 59, 60, 61, 62, 63, 64, 65, 66, 67, 68, 69, 70, 71, 72, 73, 74, 75, 76, 77, 78, 79, 80, 81, 82, 83, 84, 85, 86, 87, 88, 89, 90, 91, 92, 93, 94, 95, 96, 97, 98, 99, 100, 101, 102, 103, 104, 105, 106, 107, 108, 109, 110, 111, 112, 113, 114, 115, 116, 117, 118, 119, 120, 121, 122, 123, 124, 125, 126, 127, 128, 129, 130, 131, 1090, 1091, 1092, 1093, 1094, 1095, 1096, 1097, 1098, 1099, 1100, 1101, 1102, 1103, 1065, 1066, 1067, 1068, 1069, 1070, 1071, 1104, 1105, 1106, 1107, 1108, 1109, 1110, 1111, 1112, 1113, 1114, 1115, 1116, 1117, 1118, 1119, 1120, 1121, 1122, 1123, 1124, 1125, 1126, 1127, 1128, 1129, 1130, 1131, 1132, 1133, 1134, 1135, 1136, 1137, 1138, 1139, 1140, 1141, 1142, 1143, 1144, 1145, 1146, 1147, 1148, 1149, 1150, 1151, 1152, 1153, 1154, 1155] (by decide +kernel) (by decide +kernel)
set_option maxRecDepth 20000 in
theorem gL_law_X8_init : GoodIn wsL_law (wsX8_init) := ggL_law_X8_init
set_option maxRecDepth 20000 in
theorem ggL_law_X8_meanError : GoodIn wsL_law wsX8_meanError := goodIn_r _ [947, 20, 948, 949, 187, 950, 951, 381, 382, 19, 383, 36, 952, 665, 666, 667, 93, 668, 669, 670, 671, 656, 657, 658, 659, 90, 92, 660, 661, 662, 54, 663, 76, 77, 380, 953, 566, 567, 568, 1065, 1066, 1067, 1068, 1069, 1070, 1071, 1104, 1105, 1106, 1107, 1108, 1109, 1110, 1111, 1112, 1113, 1114, 1115, 1116, 1117, 1118, 1119, 1148, 1149, 1150, 1151, 1152, 1153, 1154, 1155, 1138, 1139, 1140, 1141, 1142, 1143, 1144, 1145, 1146, 1147] (by decide +kernel) (by decide +kernel)
set_option maxRecDepth 20000 in
theorem gL_law_X8_meanError : GoodIn wsL_law (wsV RL 111 RX8 yX8_meanError wsX8_meanError) := goodIn_app (goodIn_of _ (by decide +kernel)) ggL_law_X8_meanError
set_option maxRecDepth 20000 in
theorem ggL_law_X8_safest : GoodIn wsL_law wsX8_safest := goodIn_r _ [915, 20, 21, 916, 917, 918, 19, 919, 93, 44, 380, 381, 382, 383, 36, 376, 377, 378, 379, 90, 40, 91, 92, 94, 95, 96, 97, 98, 99, 100, 384, 385, 386, 51, 387, 105, 106, 107, 115, 116, 388, 389, 108, 109, 110, 390, 391, 392, 39, 393, 59, 60, 394, 186, 187, 188, 29, 395, 366, 367, 368, 121, 396, 397, 398, 43, 399, 400, 401, 402, 403, 404, 130, 131, 405, 920, 921, 922, 923, 656, 657, 658, 659, 660, 661, 662, 54, 663, 76, 77, 924, 925, 926, 927, 810, 811, 812, 813, 823, 824, 825, 826, 802, 803, 804, 805, 49, 564, 311, 312, 313, 78, 314, 315, 316, 555, 556, 557, 558, 559, 806, 807, 808, 809, 819, 820, 821, 822, 786, 787, 788, 789, 790, 791, 792, 793, 794, 795, 796, 797, 48, 732, 733, 734, 735, 719, 720, 721, 722, 798, 799, 800, 801, 814, 815, 816, 817, 818, 112, 113, 114, 827, 828, 829, 830, 831, 832, 833, 834, 835, 836, 837, 838, 668, 669, 670, 671, 839, 840, 841, 842, 843, 844, 845, 846, 847, 848, 849, 850, 111, 1065, 1066, 1067, 1068, 1069, 1070, 1071, 1104, 1105, 1106, 1107, 1108, 1109, 1110, 1111, 1112, 1113, 1114, 1115, 1116, 1117, 1118, 1119, 1123, 1124, 1125, 1126, 1127, 1128, 1129, 1130, 1138, 1139, 1140, 1141, 1142, 1143, 1144, 1145, 1146, 1147, 1120, 1121, 1122, 1148, 1149, 1150, 1151, 1152, 1153, 1154, 1155, 1131, 1132, 1133, 1134, 1135, 1136, 1137] (by decide +kernel) (by decide +kernel)
set_option maxRecDepth 20000 in
theorem gL_law_X8_safest : GoodIn wsL_law (wsV RL 107 RX8 yX8_safest wsX8_safest) := goodIn_app (goodIn_of _ (by decide +kernel)) ggL_law_X8_safest
set_option maxRecDepth 20000 in
theorem ggL_law_X8_spread : GoodIn wsL_law wsX8_spread := goodIn_r _ [766, 20, 767, 768, 769, 43, 770, 131, 405, 1065, 1066, 1067, 1068, 1069, 1070, 1071, 1104, 1105, 1106, 1107, 1108, 1109, 1110, 1111, 1112, 1113, 1114, 1115, 1116, 1117, 1118, 1119, 1123, 1124, 1125, 1126, 1127, 1128, 1129, 1130] (by decide +kernel) (by decide +kernel)
set_option maxRecDepth 20000 in
theorem gL_law_X8_spread : GoodIn wsL_law (wsV RL 100 RX8 yX8_spread wsX8_spread) := goodIn_app (goodIn_of _ (by decide +kernel)) ggL_law_X8_spread
set_option maxRecDepth 20000 in
theorem ggL_law_X8_undo : GoodIn wsL_law wsX8_undo := goodIn_r _ [1050, 375, 20, 22, 374, 376, 377, 378, 19, 379, 90, 36, 40, 44, 91, 92, 93, 94, 95, 96, 97, 98, 99, 100, 380, 381, 382, 383, 384, 385, 386, 51, 387, 105, 106, 107, 115, 116, 388, 389, 108, 109, 110, 390, 391, 392, 39, 393, 59, 60, 394, 186, 187, 188, 29, 395, 366, 367, 368, 121, 396, 397, 398, 43, 399, 400, 401, 402, 403, 404, 130, 131, 405, 1065, 1066, 1067, 1068, 1069, 1070, 1071, 1104, 1105, 1106, 1107, 1108, 1109, 1110, 1111, 1112, 1113, 1114, 1115, 1116, 1117, 1118, 1119, 1138, 1139, 1140, 1141, 1142, 1143, 1144, 1145, 1146, 1147, 1120, 1121, 1122, 1123, 1124, 1125, 1126, 1127, 1128, 1129, 1130] (by decide +kernel) (by decide +kernel)
set_option maxRecDepth 20000 in
theorem gL_law_X8_undo : GoodIn wsL_law (wsV RL 136 RX8 yX8_undo wsX8_undo) := goodIn_app (goodIn_of _ (by decide +kernel)) ggL_law_X8_undo
set_option maxRecDepth 20000 in
theorem ggL_law_X9_append : GoodIn wsL_law wsX9_append := goodIn_r _ [167, 168, 169, 136, 1072, 1073, 1074, 1075, 1076, 1077, 1078, 1079, 1080, 1081, 1082, 1083, 1084, 1085, 1086, 1087, 1088, 1089] (by decide +kernel) (by decide +kernel)
set_option maxRecDepth 20000 in
theorem gL_law_X9_append : GoodIn wsL_law (wsV RL 69 RX9 yX9_append wsX9_append) := goodIn_app (goodIn_of _ (by decide +kernel)) ggL_law_X9_append
set_option maxRecDepth 20000 in
theorem ggL_law_X9_ask : GoodIn wsL_law wsX9_ask := goodIn_r _ [988, 168, 139, 676, 677, 678, 5, 679, 418, 419, 420, 421, 422, 423, 424, 599, 600, 601, 602, 603, 604, 605, 606, 148, 149, 150, 502, 503, 504, 505, 506, 143, 507, 508, 509, 684, 685, 686, 687, 880, 881, 882, 883, 479, 480, 481, 1072, 1073, 1074, 1075, 1076, 1077, 1078, 1079, 1080, 1081, 1082, 1083, 1084, 1085, 1086, 1087, 1088, 1089] (by decide +kernel) (by decide +kernel)
set_option maxRecDepth 20000 in
theorem gL_law_X9_ask : GoodIn wsL_law (wsV RL 121 RX9 yX9_ask wsX9_ask) := goodIn_app (goodIn_of _ (by decide +kernel)) ggL_law_X9_ask
set_option maxRecDepth 20000 in
theorem ggL_law_X9_checksum : GoodIn wsL_law wsX9_checksum := goodIn_r _ [1063, 168, 1064, 139, 591, 592, 593, 5, 594, 595, 596, 597, 598, 599, 600, 601, 602, 603, 604, 605, 606, 148, 149, 150, 607, 608, 609, 610, 611, 612, 613, 614, 144, 615, 616, 617, 618, 619, 620, 621, 622, 623, 624, 625, 626, 627, 628, 629, 630, 631, 632, 633, 634, 635, 636, 637, 456, 457, 458, 680, 681, 682, 683, 684, 685, 686, 687, 688, 689, 690, 691, 744, 745, 746, 747, 775, 776, 777, 778, 1072, 1073, 1074, 1075, 1076, 1077, 1078, 1079, 1080, 1081, 1082, 1083, 1084, 1085, 1086, 1087, 1088, 1089] (by decide +kernel) (by decide +kernel)
set_option maxRecDepth 20000 in
theorem gL_law_X9_checksum : GoodIn wsL_law (wsV RL 144 RX9 yX9_checksum wsX9_checksum) := goodIn_app (goodIn_of _ (by decide +kernel)) ggL_law_X9_checksum
set_option maxRecDepth 20000 in
theorem ggL_law_X9_cut : GoodIn wsL_law wsX9_cut := goodIn_r _ [1031, 168, 139, 958, 949, 187, 950, 676, 677, 678, 5, 679, 418, 419, 420, 421, 422, 423, 424, 479, 480, 481, 502, 503, 504, 505, 506, 143, 507, 508, 509, 1072, 1073, 1074, 1075, 1076, 1077, 1078, 1079, 1080, 1081, 1082, 1083, 1084, 1085, 1086, 1087, 1088, 1089] (by decide +kernel) (by decide +kernel)
set_option maxRecDepth 20000 in
theorem gL_law_X9_cut : GoodIn wsL_law (wsV RL 132 RX9 yX9_cut wsX9_cut) := goodIn_app (goodIn_of _ (by decide +kernel)) ggL_law_X9_cut
set_option maxRecDepth 20000 in
theorem ggL_law_X9_errorOffset : GoodIn wsL_law wsX9_errorOffset := goodIn_r _ [521, 168, 137, 1072, 1073, 1074, 1075, 1076, 1077, 1078, 1079, 1080, 1081, 1082, 1083, 1084, 1085, 1086, 1087, 1088, 1089] (by decide +kernel) (by decide +kernel)
set_option maxRecDepth 20000 in
theorem gL_law_X9_errorOffset : GoodIn wsL_law (wsV RL 83 RX9 yX9_errorOffset wsX9_errorOffset) := goodIn_app (goodIn_of _ (by decide +kernel)) ggL_law_X9_errorOffset
set_option maxRecDepth 20000 in
theorem ggL_law_X9_foretold : GoodIn wsL_law wsX9_foretold := goodIn_r _ [855, 168, 139, 140, 418, 419, 5, 420, 421, 422, 423, 424, 507, 508, 509, 856, 857, 858, 859, 860, 861, 862, 863, 864, 865, 866, 867, 599, 600, 601, 602, 603, 604, 605, 606, 148, 149, 150, 868, 869, 870, 871, 872, 873, 874, 875, 876, 877, 878, 879, 684, 685, 686, 687, 880, 881, 882, 883, 479, 480, 481, 884, 885, 886, 887, 888, 889, 890, 891, 892, 893, 894, 895, 896, 897, 898, 899, 900, 901, 902, 903, 904, 905, 906, 907, 688, 689, 690, 691, 908, 909, 910, 911, 775, 776, 777, 778, 595, 596, 597, 598, 1072, 1073, 1074, 1075, 1076, 1077, 1078, 1079, 1080, 1081, 1082, 1083, 1084, 1085, 1086, 1087, 1088, 1089] (by decide +kernel) (by decide +kernel)
set_option maxRecDepth 20000 in
theorem gL_law_X9_foretold : GoodIn wsL_law (wsV RL 106 RX9 yX9_foretold wsX9_foretold) := goodIn_app (goodIn_of _ (by decide +kernel)) ggL_law_X9_foretold
set_option maxRecDepth 20000 in
theorem ggL_law_X9_init : GoodIn wsL_law wsX9_init := goodIn_r _ [134, 135, 11, 12, 29, 136, 137, 138, 139, 140, 141, 142, 143, 6, 144, 145, 146, 5, 147, 148, 149, 150, 1072, 1073, 1074, 1075, 1076, 1077, 1078, 1079, 1080, 1081, 1082, 1083, 1084, 1085, 1086, 1087, 1088, 1089] (by decide +kernel) (by decide +kernel)
set_option maxRecDepth 20000 in
theorem gL_law_X9_init : GoodIn wsL_law (wsX9_init) := ggL_law_X9_init
set_option maxRecDepth 20000 in
theorem ggL_law_X9_lead : GoodIn wsL_law wsX9_lead := goodIn_r _ [1046, 168, 139, 676, 677, 678, 5, 679, 418, 419, 420, 421, 422, 423, 424, 502, 503, 504, 505, 506, 143, 507, 508, 509, 884, 885, 886, 887, 148, 149, 150, 1072, 1073, 1074, 1075, 1076, 1077, 1078, 1079, 1080, 1081, 1082, 1083, 1084, 1085, 1086, 1087, 1088, 1089] (by decide +kernel) (by decide +kernel)
set_option maxRecDepth 20000 in
theorem gL_law_X9_lead : GoodIn wsL_law (wsV RL 135 RX9 yX9_lead wsX9_lead) := goodIn_app (goodIn_of _ (by decide +kernel)) ggL_law_X9_lead
set_option maxRecDepth 20000 in
theorem ggL_law_X9_link : GoodIn wsL_law wsX9_link := goodIn_r _ [704, 168, 139, 676, 677, 678, 5, 679, 418, 419, 420, 421, 422, 423, 424, 479, 480, 481, 1072, 1073, 1074, 1075, 1076, 1077, 1078, 1079, 1080, 1081, 1082, 1083, 1084, 1085, 1086, 1087, 1088, 1089] (by decide +kernel) (by decide +kernel)
set_option maxRecDepth 20000 in
theorem gL_law_X9_link : GoodIn wsL_law (wsV RL 93 RX9 yX9_link wsX9_link) := goodIn_app (goodIn_of _ (by decide +kernel)) ggL_law_X9_link
set_option maxRecDepth 20000 in
theorem ggL_law_X9_load : GoodIn wsL_law wsX9_load := goodIn_r _ [410, 168, 169, 411, 412, 413, 414, 415, 416, 417, 141, 137, 139, 418, 419, 5, 420, 421, 422, 423, 424, 425, 426, 427, 428, 429, 430, 431, 432, 433, 434, 435, 436, 437, 438, 439, 440, 136, 441, 216, 217, 218, 219, 220, 221, 222, 223, 224, 225, 226, 442, 228, 229, 230, 231, 232, 233, 234, 235, 236, 237, 238, 239, 240, 241, 242, 243, 244, 245, 246, 247, 248, 249, 250, 251, 252, 253, 254, 255, 256, 257, 258, 259, 260, 261, 262, 263, 443, 444, 445, 446, 447, 448, 449, 450, 451, 452, 453, 454, 455, 456, 457, 458, 145, 146, 147, 148, 149, 150, 459, 460, 461, 462, 463, 464, 465, 466, 467, 468, 469, 470, 471, 472, 473, 474, 475, 476, 477, 478, 479, 480, 481, 482, 483, 484, 485, 486, 487, 488, 489, 490, 491, 492, 493, 494, 495, 496, 497, 498, 499, 500, 501, 502, 503, 504, 505, 506, 143, 507, 508, 509, 1072, 1073, 1074, 1075, 1076, 1077, 1078, 1079, 1080, 1081, 1082, 1083, 1084, 1085, 1086, 1087, 1088, 1089] (by decide +kernel) (by decide +kernel)
set_option maxRecDepth 20000 in
theorem gL_law_X9_load : GoodIn wsL_law (wsV RL 75 RX9 yX9_load wsX9_load) := goodIn_app (goodIn_of _ (by decide +kernel)) ggL_law_X9_load
set_option maxRecDepth 20000 in
theorem ggL_law_X9_meanError : GoodIn wsL_law wsX9_meanError := goodIn_r _ [957, 168, 139, 958, 949, 187, 950, 626, 627, 628, 5, 629, 603, 604, 605, 606, 148, 149, 150, 599, 600, 601, 602, 680, 681, 682, 683, 684, 685, 686, 687, 688, 689, 690, 691, 1072, 1073, 1074, 1075, 1076, 1077, 1078, 1079, 1080, 1081, 1082, 1083, 1084, 1085, 1086, 1087, 1088, 1089] (by decide +kernel) (by decide +kernel)
set_option maxRecDepth 20000 in
theorem gL_law_X9_meanError : GoodIn wsL_law (wsV RL 115 RX9 yX9_meanError wsX9_meanError) := goodIn_app (goodIn_of _ (by decide +kernel)) ggL_law_X9_meanError
set_option maxRecDepth 20000 in
theorem ggL_law_X9_message : GoodIn wsL_law wsX9_message := goodIn_r _ [739, 168, 139, 418, 419, 5, 420, 421, 422, 423, 424, 740, 741, 742, 743, 744, 745, 746, 747, 1072, 1073, 1074, 1075, 1076, 1077, 1078, 1079, 1080, 1081, 1082, 1083, 1084, 1085, 1086, 1087, 1088, 1089] (by decide +kernel) (by decide +kernel)
set_option maxRecDepth 20000 in
theorem gL_law_X9_message : GoodIn wsL_law (wsV RL 96 RX9 yX9_message wsX9_message) := goodIn_app (goodIn_of _ (by decide +kernel)) ggL_law_X9_message
set_option maxRecDepth 20000 in
theorem ggL_law_X9_pass : GoodIn wsL_law wsX9_pass := goodIn_r _ [1000, 168, 139, 418, 419, 5, 420, 421, 422, 423, 424, 502, 503, 504, 505, 506, 143, 507, 508, 509, 868, 869, 870, 871, 872, 873, 874, 875, 876, 877, 878, 879, 599, 600, 601, 602, 603, 604, 605, 606, 148, 149, 150, 684, 685, 686, 687, 880, 881, 882, 883, 479, 480, 481, 884, 885, 886, 887, 888, 889, 890, 891, 864, 865, 866, 867, 892, 893, 894, 895, 896, 897, 898, 899, 900, 901, 902, 903, 904, 905, 906, 907, 688, 689, 690, 691, 908, 909, 910, 911, 1072, 1073, 1074, 1075, 1076, 1077, 1078, 1079, 1080, 1081, 1082, 1083, 1084, 1085, 1086, 1087, 1088, 1089] (by decide +kernel) (by decide +kernel)
set_option maxRecDepth 20000 in
theorem gL_law_X9_pass : GoodIn wsL_law (wsV RL 124 RX9 yX9_pass wsX9_pass) := goodIn_app (goodIn_of _ (by decide +kernel)) ggL_law_X9_pass
set_option maxRecDepth 20000 in
theorem ggL_law_X9_player : GoodIn wsL_law wsX9_player := goodIn_r _ [675, 168, 676, 677, 678, 5, 679, 139, 418, 419, 420, 421, 422, 423, 424, 680, 681, 682, 683, 603, 604, 605, 606, 148, 149, 150, 684, 685, 686, 687, 688, 689, 690, 691, 1072, 1073, 1074, 1075, 1076, 1077, 1078, 1079, 1080, 1081, 1082, 1083, 1084, 1085, 1086, 1087, 1088, 1089] (by decide +kernel) (by decide +kernel)
set_option maxRecDepth 20000 in
theorem gL_law_X9_player : GoodIn wsL_law (wsV RL 90 RX9 yX9_player wsX9_player) := goodIn_app (goodIn_of _ (by decide +kernel)) ggL_law_X9_player
set_option maxRecDepth 20000 in
theorem ggL_law_X9_power : GoodIn wsL_law wsX9_power := goodIn_r _ [1015, 168, 676, 677, 678, 5, 679, 139, 418, 419, 420, 421, 422, 423, 424, 502, 503, 504, 505, 506, 143, 507, 508, 509, 599, 600, 601, 602, 603, 604, 605, 606, 148, 149, 150, 884, 885, 886, 887, 900, 901, 902, 903, 1072, 1073, 1074, 1075, 1076, 1077, 1078, 1079, 1080, 1081, 1082, 1083, 1084, 1085, 1086, 1087, 1088, 1089] (by decide +kernel) (by decide +kernel)
set_option maxRecDepth 20000 in
theorem gL_law_X9_power : GoodIn wsL_law (wsV RL 128 RX9 yX9_power wsX9_power) := goodIn_app (goodIn_of _ (by decide +kernel)) ggL_law_X9_power
set_option maxRecDepth 20000 in
theorem ggL_law_X9_proposal : GoodIn wsL_law wsX9_proposal := goodIn_r _ [762, 168, 139, 421, 422, 423, 5, 424, 418, 419, 420, 1072, 1073, 1074, 1075, 1076, 1077, 1078, 1079, 1080, 1081, 1082, 1083, 1084, 1085, 1086, 1087, 1088, 1089] (by decide +kernel) (by decide +kernel)
set_option maxRecDepth 20000 in
theorem gL_law_X9_proposal : GoodIn wsL_law (wsV RL 99 RX9 yX9_proposal wsX9_proposal) := goodIn_app (goodIn_of _ (by decide +kernel)) ggL_law_X9_proposal
set_option maxRecDepth 20000 in
theorem ggL_law_X9_propose : GoodIn wsL_law wsX9_propose := goodIn_r _ [973, 168, 418, 419, 5, 420, 421, 422, 423, 424, 932, 933, 934, 935, 139, 599, 600, 601, 602, 603, 604, 605, 606, 148, 149, 150, 864, 865, 866, 867, 502, 503, 504, 505, 506, 143, 507, 508, 509, 607, 608, 609, 610, 611, 612, 613, 614, 144, 615, 616, 617, 618, 619, 620, 621, 622, 623, 624, 625, 626, 627, 628, 629, 630, 631, 632, 633, 634, 635, 636, 637, 456, 457, 458, 940, 941, 942, 943, 684, 685, 686, 687, 888, 889, 890, 891, 884, 885, 886, 887, 896, 897, 898, 899, 880, 881, 882, 883, 479, 480, 481, 892, 893, 894, 895, 1072, 1073, 1074, 1075, 1076, 1077, 1078, 1079, 1080, 1081, 1082, 1083, 1084, 1085, 1086, 1087, 1088, 1089] (by decide +kernel) (by decide +kernel)
set_option maxRecDepth 20000 in
theorem gL_law_X9_propose : GoodIn wsL_law (wsV RL 118 RX9 yX9_propose wsX9_propose) := goodIn_app (goodIn_of _ (by decide +kernel)) ggL_law_X9_propose
set_option maxRecDepth 20000 in
theorem ggL_law_X9_safest : GoodIn wsL_law wsX9_safest := goodIn_r _ [931, 168, 139, 140, 932, 933, 934, 5, 935, 599, 600, 601, 602, 603, 604, 605, 606, 148, 149, 150, 864, 865, 866, 867, 507, 508, 509, 936, 937, 938, 939, 940, 941, 942, 943, 684, 685, 686, 687, 888, 889, 890, 891, 884, 885, 886, 887, 896, 897, 898, 899, 880, 881, 882, 883, 479, 480, 481, 892, 893, 894, 895, 856, 857, 858, 859, 860, 861, 862, 863, 868, 869, 870, 871, 872, 873, 874, 875, 876, 877, 878, 879, 900, 901, 902, 903, 904, 905, 906, 907, 688, 689, 690, 691, 908, 909, 910, 911, 1072, 1073, 1074, 1075, 1076, 1077, 1078, 1079, 1080, 1081, 1082, 1083, 1084, 1085, 1086, 1087, 1088, 1089] (by decide +kernel) (by decide +kernel)
set_option maxRecDepth 20000 in
theorem gL_law_X9_safest : GoodIn wsL_law (wsV RL 110 RX9 yX9_safest wsX9_safest) := goodIn_app (goodIn_of _ (by decide +kernel)) ggL_law_X9_safest
set_option maxRecDepth 20000 in
theorem ggL_law_X9_spread : GoodIn wsL_law wsX9_spread := goodIn_r _ [774, 168, 775, 776, 777, 5, 778, 139, 1072, 1073, 1074, 1075, 1076, 1077, 1078, 1079, 1080, 1081, 1082, 1083, 1084, 1085, 1086, 1087, 1088, 1089] (by decide +kernel) (by decide +kernel)
set_option maxRecDepth 20000 in
theorem gL_law_X9_spread : GoodIn wsL_law (wsV RL 103 RX9 yX9_spread wsX9_spread) := goodIn_app (goodIn_of _ (by decide +kernel)) ggL_law_X9_spread
set_option maxRecDepth 20000 in
theorem ggL_law_X9_state : GoodIn wsL_law wsX9_state := goodIn_r _ [590, 168, 418, 419, 5, 420, 421, 422, 423, 424, 591, 592, 593, 594, 139, 595, 596, 597, 598, 599, 600, 601, 602, 603, 604, 605, 606, 148, 149, 150, 607, 608, 609, 610, 611, 612, 613, 614, 144, 615, 616, 617, 618, 619, 620, 621, 622, 623, 624, 625, 626, 627, 628, 629, 630, 631, 632, 633, 634, 635, 636, 637, 456, 457, 458, 1072, 1073, 1074, 1075, 1076, 1077, 1078, 1079, 1080, 1081, 1082, 1083, 1084, 1085, 1086, 1087, 1088, 1089] (by decide +kernel) (by decide +kernel)
set_option maxRecDepth 20000 in
theorem gL_law_X9_state : GoodIn wsL_law (wsV RL 86 RX9 yX9_state wsX9_state) := goodIn_app (goodIn_of _ (by decide +kernel)) ggL_law_X9_state
set_option maxRecDepth 20000 in
theorem ggL_law_X9_thrown : GoodIn wsL_law wsX9_thrown := goodIn_r _ [513, 168, 1072, 1073, 1074, 1075, 1076, 1077, 1078, 1079, 1080, 1081, 1082, 1083, 1084, 1085, 1086, 1087, 1088, 1089] (by decide +kernel) (by decide +kernel)
set_option maxRecDepth 20000 in
theorem gL_law_X9_thrown : GoodIn wsL_law (wsV RL 76 RX9 yX9_thrown wsX9_thrown) := goodIn_app (goodIn_of _ (by decide +kernel)) ggL_law_X9_thrown
set_option maxRecDepth 20000 in
theorem ggL_law_X9_undo : GoodIn wsL_law wsX9_undo := goodIn_r _ [1054, 168, 506, 143, 139, 507, 508, 5, 509, 1072, 1073, 1074, 1075, 1076, 1077, 1078, 1079, 1080, 1081, 1082, 1083, 1084, 1085, 1086, 1087, 1088, 1089] (by decide +kernel) (by decide +kernel)
set_option maxRecDepth 20000 in
theorem gL_law_X9_undo : GoodIn wsL_law (wsV RL 139 RX9 yX9_undo wsX9_undo) := goodIn_app (goodIn_of _ (by decide +kernel)) ggL_law_X9_undo
set_option maxRecDepth 20000 in
theorem ggL_lead_X8_lead : GoodIn wsL_lead wsX8_lead := goodIn_ca (goodIn_r _ [6, 7, 8, 9, 10, 5, 11, 12, 13, 14, 15, 16, 17, 18, 19, 20, 21, 22, 23, 24, 25, 26, 27, 28, 29, 30, 31, 32, 33, 34, 35, 36, 37, 38, 39, 40, 41, 42, 43, 44, 45, 46, 47, 48, 49, 50, 51, 52, 53, 54, 55, 56, 57, 58, 59, 60, 61, 62, 63, 64, 65, 66, 67, 68, 69, 70, 71, 72, 73, 74, 75, 76, 77, 78, 79, 80, 81, 82, 83, 84, 85, 86, 87, 88, 89, 90, 91, 92, 93, 94, 95, 96, 97, 98, 99, 100, 101, 102, 103, 104, 105, 106, 107, 108, 109, 110, 111, 112, 113, 114, 115, 116, 117, 118, 119, 120, 121, 122, 123, 124, 125, 126, 127, 128, 129, 130, 131, 132, 133, 134, 135, 136, 137, 138, 139, 140, 141, 142, 143, 144] (by decide +kernel) (by decide +kernel)) (goodIn_sub (fun _ h => List.mem_cons_of_mem _ (List.mem_append_right _ h)) (by decide +kernel))
set_option maxRecDepth 20000 in
theorem gL_lead_X8_lead : GoodIn wsL_lead (wsV RL 58 RX8 yX8_lead wsX8_lead) := goodIn_app (goodIn_of _ (by decide +kernel)) ggL_lead_X8_lead
set_option maxRecDepth 20000 in
theorem ggL_pass_X8_pass : GoodIn wsL_pass wsX8_pass := goodIn_ca (goodIn_r _ [6, 7, 8, 9, 10, 11, 12, 5, 13, 14, 15, 16, 17, 18, 19, 20, 21, 22, 23, 24, 25, 26, 27, 28, 29, 30, 31, 32, 33, 34, 35, 36, 37, 38, 39, 40, 41, 42, 43, 44, 45, 46, 47, 48, 49, 50, 51, 52, 53, 54, 55, 56, 57, 58, 59, 60, 61, 62, 63, 64, 65, 66, 67, 68, 69, 70, 71, 72, 73, 74, 75, 76, 77, 78, 79, 80, 81, 82, 83, 84, 85, 86, 87, 88, 89, 90, 91, 92, 93, 94, 95, 96, 97, 98, 99, 100, 101, 102, 103, 104, 105, 106, 107, 108, 109, 110, 111, 112, 113, 114, 115, 116, 117, 118, 119, 120, 121, 122, 123, 124, 125, 126, 127, 128, 129, 130, 131, 132, 133, 134, 135, 136, 137, 138, 139, 140, 141, 142, 143, 144, 145, 146, 147, 148, 149, 150, 151, 152, 153, 154, 155, 156, 157, 158, 159, 160, 161, 162, 163, 164, 165, 166, 167, 168, 169, 170, 171, 172, 173, 174, 175, 176, 177, 178, 179, 180, 181, 182, 183, 184, 185, 186, 187, 188, 189, 190, 191, 192, 193, 194, 195, 196, 197, 198, 199, 200, 201, 202, 203, 204, 205, 206, 207, 208, 209, 210, 211, 212, 213, 214, 215, 216, 217, 218, 219, 220, 221, 222, 223, 224, 225, 226, 227, 228, 229, 230, 231, 232, 233, 234, 235, 236, 237, 238, 239, 240, 241, 242] (by decide +kernel) (by decide +kernel)) (goodIn_sub (fun _ h => List.mem_cons_of_mem _ (List.mem_append_right _ h)) (by decide +kernel))
set_option maxRecDepth 20000 in
theorem gL_pass_X8_pass : GoodIn wsL_pass (wsV RL 47 RX8 yX8_pass wsX8_pass) := goodIn_app (goodIn_of _ (by decide +kernel)) ggL_pass_X8_pass
set_option maxRecDepth 20000 in
theorem ggL_power_X8_power : GoodIn wsL_power wsX8_power := goodIn_ca (goodIn_r _ [6, 7, 8, 9, 10, 5, 11, 12, 13, 14, 15, 16, 17, 18, 19, 20, 21, 22, 23, 24, 25, 26, 27, 28, 29, 30, 31, 32, 33, 34, 35, 36, 37, 38, 39, 40, 41, 42, 43, 44, 45, 46, 47, 48, 49, 50, 51, 52, 53, 54, 55, 56, 57, 58, 59, 60, 61, 62, 63, 64, 65, 66, 67, 68, 69, 70, 71, 72, 73, 74, 75, 76, 77, 78, 79, 80, 81, 82, 83, 84, 85, 86, 87, 88, 89, 90, 91, 92, 93, 94, 95, 96, 97, 98, 99, 100, 101, 102, 103, 104, 105, 106, 107, 108, 109, 110, 111, 112, 113, 114, 115, 116, 117, 118, 119, 120, 121, 122, 123, 124, 125, 126, 127, 128, 129, 130, 131, 132, 133, 134, 135, 136, 137, 138, 139, 140, 141, 142, 143, 144, 145, 146, 147, 148, 149] (by decide +kernel) (by decide +kernel)) (goodIn_sub (fun _ h => List.mem_cons_of_mem _ (List.mem_append_right _ h)) (by decide +kernel))
set_option maxRecDepth 20000 in
theorem gL_power_X8_power : GoodIn wsL_power (wsV RL 50 RX8 yX8_power wsX8_power) := goodIn_app (goodIn_of _ (by decide +kernel)) ggL_power_X8_power
set_option maxRecDepth 20000 in
theorem ggX9_expect_X9_isGood : GoodIn wsX9_expect wsX9_isGood := goodIn_r _ [6, 7, 23, 24, 25, 26, 27, 28, 29, 30, 31, 32, 33, 34, 35, 36, 37, 38, 39, 40] (by decide +kernel) (by decide +kernel)
set_option maxRecDepth 20000 in
theorem gX9_expect_X9_isGood : GoodIn wsX9_expect (wsV RX9 69 RX9 yX9_isGood wsX9_isGood) := goodIn_app (goodIn_of _ (by decide +kernel)) ggX9_expect_X9_isGood
set_option maxRecDepth 20000 in
theorem ggX9_load_X9_expect : GoodIn wsX9_load wsX9_expect := goodIn_r _ [112, 4, 25, 26, 27, 15, 28, 5, 29, 30, 31, 32, 33, 34, 35, 36, 3, 37, 87, 88, 89, 90, 6, 161, 162, 163, 164, 165, 166, 167, 168, 169, 170, 171, 172, 173, 174, 175, 176, 177, 178] (by decide +kernel) (by decide +kernel)
set_option maxRecDepth 20000 in
theorem gX9_load_X9_expect : GoodIn wsX9_load (wsV RX9 108 RX9 yX9_expect wsX9_expect) := goodIn_app (goodIn_of _ (by decide +kernel)) ggX9_load_X9_expect
set_option maxRecDepth 20000 in
theorem ggX9_load_X9_isGood : GoodIn wsX9_load wsX9_isGood := goodIn_r _ [28, 5, 161, 162, 163, 164, 165, 166, 167, 168, 169, 170, 171, 172, 173, 174, 175, 176, 177, 178] (by decide +kernel) (by decide +kernel)
set_option maxRecDepth 20000 in
theorem gX9_load_X9_isGood : GoodIn wsX9_load (wsV RX9 69 RX9 yX9_isGood wsX9_isGood) := goodIn_app (goodIn_of _ (by decide +kernel)) ggX9_load_X9_isGood
set_option maxRecDepth 20000 in
theorem ggX9_load_X9_layPlayers : GoodIn wsX9_load wsX9_layPlayers := goodIn_r _ [105, 106, 107, 15, 108] (by decide +kernel) (by decide +kernel)
set_option maxRecDepth 20000 in
theorem gX9_load_X9_layPlayers : GoodIn wsX9_load (va_wsS RX9 36 yX9_layPlayers wsX9_layPlayers) := goodIn_app (goodIn_of _ (by decide +kernel)) ggX9_load_X9_layPlayers
set_option maxRecDepth 20000 in
theorem ggX9_load_X9_number : GoodIn wsX9_load wsX9_number := goodIn_r _ [94, 4, 95, 96, 25, 26, 27, 15, 28, 5, 29, 30, 31, 32, 33, 34, 35, 36, 3, 37, 97, 98, 99, 13, 14, 16, 87, 88, 89, 90, 6, 100, 101, 102, 161, 162, 163, 164, 165, 166, 167, 168, 169, 170, 171, 172, 173, 174, 175, 176, 177, 178] (by decide +kernel) (by decide +kernel)
set_option maxRecDepth 20000 in
theorem gX9_load_X9_number : GoodIn wsX9_load (wsV RX9 124 RX9 yX9_number wsX9_number) := goodIn_app (goodIn_of _ (by decide +kernel)) ggX9_load_X9_number
set_option maxRecDepth 20000 in
theorem ggX9_load_X9_report : GoodIn wsX9_load wsX9_report := goodIn_r _ [90, 5, 6, 161, 162, 163, 164, 165, 166, 167, 168, 169, 170, 171, 172, 173, 174, 175, 176, 177, 178] (by decide +kernel) (by decide +kernel)
set_option maxRecDepth 20000 in
theorem gX9_load_X9_report : GoodIn wsX9_load (wsV RX9 86 RX9 yX9_report wsX9_report) := goodIn_app (goodIn_of _ (by decide +kernel)) ggX9_load_X9_report
set_option maxRecDepth 20000 in
theorem ggX9_load_X9_takeWord : GoodIn wsX9_load wsX9_takeWord := goodIn_r _ [24, 4, 25, 26, 27, 15, 28, 5, 29, 30, 31, 32, 33, 34, 35, 36, 3, 37, 38, 39, 40, 41, 42, 43, 44, 45, 46, 47, 48, 49, 50, 51, 52, 53, 54, 55, 56, 57, 58, 59, 60, 61, 62, 63, 64, 65, 66, 67, 68, 69, 70, 71, 72, 73, 74, 75, 76, 77, 78, 79, 80, 81, 82, 83, 84, 85, 86, 13, 14, 16, 161, 162, 163, 164, 165, 166, 167, 168, 169, 170, 171, 172, 173, 174, 175, 176, 177, 178] (by decide +kernel) (by decide +kernel)
set_option maxRecDepth 20000 in
theorem gX9_load_X9_takeWord : GoodIn wsX9_load (wsV RX9 114 RX9 yX9_takeWord wsX9_takeWord) := goodIn_app (goodIn_of _ (by decide +kernel)) ggX9_load_X9_takeWord
set_option maxRecDepth 20000 in
theorem ggX9_number_X9_isGood : GoodIn wsX9_number wsX9_isGood := goodIn_r _ [8, 9, 34, 35, 36, 37, 38, 39, 40, 41, 42, 43, 44, 45, 46, 47, 48, 49, 50, 51] (by decide +kernel) (by decide +kernel)
set_option maxRecDepth 20000 in
theorem gX9_number_X9_isGood : GoodIn wsX9_number (wsV RX9 69 RX9 yX9_isGood wsX9_isGood) := goodIn_app (goodIn_of _ (by decide +kernel)) ggX9_number_X9_isGood
set_option maxRecDepth 20000 in
theorem ggX9_takeWord_J0_charAt_5068e : GoodIn wsX9_takeWord wsJ0_charAt_5068e := goodIn_r _ [33, 23, 34, 35, 36, 21, 37, 28, 29, 38, 39, 40, 41, 42, 43, 44, 45, 46, 47, 48, 49, 50, 51, 52, 53, 54, 55, 56, 57, 58, 59, 60, 61, 62, 63, 64, 65, 66] (by decide +kernel) (by decide +kernel)
set_option maxRecDepth 20000 in
theorem gX9_takeWord_J0_charAt_5068e : GoodIn wsX9_takeWord (wsV RX9 82 RJ0 yJ0_charAt_5068e wsJ0_charAt_5068e) := goodIn_app (goodIn_of _ (by decide +kernel)) ggX9_takeWord_J0_charAt_5068e
set_option maxRecDepth 20000 in
theorem ggX9_takeWord_J0_length_8abf5 : GoodIn wsX9_takeWord wsJ0_length_8abf5 := goodIn_r _ [22, 23, 24, 25, 26, 21, 27, 28, 29] (by decide +kernel) (by decide +kernel)
set_option maxRecDepth 20000 in
theorem gX9_takeWord_J0_length_8abf5 : GoodIn wsX9_takeWord (wsV RX9 77 RJ0 yJ0_length_8abf5 wsJ0_length_8abf5) := goodIn_app (goodIn_of _ (by decide +kernel)) ggX9_takeWord_J0_length_8abf5
set_option maxRecDepth 20000 in
theorem ggX9_takeWord_X9_ahead : GoodIn wsX9_takeWord wsX9_ahead := goodIn_r _ [11, 1, 12, 13, 14, 5, 15, 16, 17, 70, 71, 72, 73, 74, 75, 76, 77, 78, 79, 80, 81, 82, 83, 84, 85, 86, 87] (by decide +kernel) (by decide +kernel)
set_option maxRecDepth 20000 in
theorem gX9_takeWord_X9_ahead : GoodIn wsX9_takeWord (wsV RX9 73 RX9 yX9_ahead wsX9_ahead) := goodIn_app (goodIn_of _ (by decide +kernel)) ggX9_takeWord_X9_ahead
set_option maxRecDepth 20000 in
theorem ggX9_takeWord_X9_byteAt : GoodIn wsX9_takeWord wsX9_byteAt := goodIn_r _ [15, 16, 17, 70, 71, 72, 73, 74, 75, 76, 77, 78, 79, 80, 81, 82, 83, 84, 85, 86, 87] (by decide +kernel) (by decide +kernel)
set_option maxRecDepth 20000 in
theorem gX9_takeWord_X9_byteAt : GoodIn wsX9_takeWord (wsV RX9 56 RX9 yX9_byteAt wsX9_byteAt) := goodIn_app (goodIn_of _ (by decide +kernel)) ggX9_takeWord_X9_byteAt
set_option maxRecDepth 20000 in
theorem ggX9_takeWord_X9_isGood : GoodIn wsX9_takeWord wsX9_isGood := goodIn_r _ [6, 7, 70, 71, 72, 73, 74, 75, 76, 77, 78, 79, 80, 81, 82, 83, 84, 85, 86, 87] (by decide +kernel) (by decide +kernel)
set_option maxRecDepth 20000 in
theorem gX9_takeWord_X9_isGood : GoodIn wsX9_takeWord (wsV RX9 69 RX9 yX9_isGood wsX9_isGood) := goodIn_app (goodIn_of _ (by decide +kernel)) ggX9_takeWord_X9_isGood
set_option maxHeartbeats 4000000 in
theorem kJ3_ci (l : Launch) (D : va_G) (cs : Nat → ClassId) (sz : Nat) (x y : Int32) (o : Option Nat) (h1 : ¬ x < 0) (h2 : x < y) : KI l yJ3_checkIndex_8e157 wsJ3_checkIndex_8e157 0 0 0 0 D cs sz [.int x, .int y, va_rf o] [] (fun _ => []) x := by
  cases o <;>
  · refine KI.of cJ3_checkIndex_8e157 3 (some .int) (by decide) rfl (Nat.le_of_ble_eq_true rfl) ?_
    intro p e s m below meth c A ls hx hb hr hml hown hts hlocks hin hP hN hD hA hS hl
    have hl : lv_has ls 3 [(0, .int x), (1, .int y)] := lv_sub hl [0, 1] rfl
    refine lv_iload_n hx hb dJ3_checkIndex_8e157_0 rfl (lv_at hl 0 rfl) ?_
    refine lv_if_lt (tgt := 9) hx hb dJ3_checkIndex_8e157_1 (by decide) (fun c9 => absurd c9 h1) (fun _ => ?_)
    refine lv_iload_n hx hb dJ3_checkIndex_8e157_4 rfl (lv_at hl 0 rfl) ?_
    refine lv_iload_n hx hb dJ3_checkIndex_8e157_5 rfl (lv_at hl 1 rfl) ?_
    refine lv_icmp_lt (tgt := 16) hx hb dJ3_checkIndex_8e157_6 (by decide) (fun _ => ?_) (fun c9 => absurd h2 c9)
    refine lv_iload_n hx hb dJ3_checkIndex_8e157_16 rfl (lv_at hl 0 rfl) ?_
    exact en_i (fun _ => 0) hx hb hr hlocks rfl rfl hP hD hS (Nat.le_of_ble_eq_true rfl) (Nat.le_of_ble_eq_true rfl) dJ3_checkIndex_8e157_17
set_option maxHeartbeats 4000000 in
theorem kJ0_ci (l : Launch) (D : va_G) (cs : Nat → ClassId) (sz : Nat) (x y : Int32) (h1 : ¬ x < 0) (h2 : x < y) : KSV l yJ0_checkIndex_df160 wsJ0_checkIndex_df160 1 30 0 0 D cs sz [.int x, .int y] [] (fun _ => []) := by
  refine KSV.of cJ0_checkIndex_df160 2 none (by decide) rfl (Nat.le_of_ble_eq_true rfl) ?_
  intro p e s m below meth c A ls hx hb hr hml hown hts hlocks hin hP hN hD hA hS hl hZS
  have hown : s.vm.findClass RJ0 = some m.cls := hown
  have hl : lv_has ls 2 [(0, .int x), (1, .int y)] := hl
  refine lv_iload_n hx hb dJ0_checkIndex_df160_0 rfl (lv_at hl 0 rfl) ?_
  refine lv_iload_n hx hb dJ0_checkIndex_df160_1 rfl (lv_at hl 1 rfl) ?_
  obtain ⟨o, ho⟩ : ∃ o : Option Nat, va_Z "jdk/internal/util/Preconditions" "SIOOBE_FORMATTER" "Ljava/util/function/BiFunction;" (va_rf o) A s s.heap := by
    rcases hZS.2.2.2.2.2 with h | ⟨t, h⟩
    · exact ⟨none, h⟩
    · exact ⟨some t, h⟩
  refine va_gets hx hb ho hS hown (hts (.fieldLink RJ0 1053 "jdk/internal/util/Preconditions" "SIOOBE_FORMATTER" "Ljava/util/function/BiFunction;") (List.mem_of_getElem? (i := 1) (by decide +kernel))) (fun _ h9 => h9) dJ0_checkIndex_df160_2 ?_
  refine cs_i (As := [.int x, .int y, va_rf o]) (rest := []) (wr := []) ⟨hx, hb, hml, hown, hts⟩ (fun sz => kJ3_ci l D cs sz x y o h1 h2) (va_cwS 3 hts gJ0_checkIndex_df160_J3_checkIndex_8e157 rfl rfl rfl (by decide +kernel) ⟨Nat.le_of_ble_eq_true rfl, Nat.le_of_ble_eq_true rfl⟩) hN hP hD hS hA [] [] rfl rfl rfl rfl (by decide) rfl rfl hl.1 (Nat.le_of_ble_eq_true rfl) dJ0_checkIndex_df160_5 (Nat.le_of_ble_eq_true rfl) (Nat.le_of_ble_eq_true rfl) (fun u1 H locs hP hD hS => ?_)
  refine lv_pop hx hb dJ0_checkIndex_df160_8 rfl ?_
  exact en_v (fun _ => 0) hx hb hr hlocks hP hD hS (Nat.le_of_ble_eq_true rfl) (Nat.le_of_ble_eq_true rfl) dJ0_checkIndex_df160_9
