theorem dX0_init_0 : decode cX0_init 0 = .ok (.aload_n 0, 1) := by decide +kernel
theorem dX0_init_1 : decode cX0_init 1 = .ok (.invokespecial 1, 3) := by decide +kernel
theorem dX0_init_4 : decode cX0_init 4 = .ok (.aload_n 0, 1) := by decide +kernel
theorem dX0_init_5 : decode cX0_init 5 = .ok (.bipush 16, 2) := by decide +kernel
theorem dX0_init_7 : decode cX0_init 7 = .ok (.newarray .int, 2) := by decide +kernel
theorem dX0_init_9 : decode cX0_init 9 = .ok (.putfield 9, 3) := by decide +kernel
theorem dX0_init_12 : decode cX0_init 12 = .ok (.aload_n 0, 1) := by decide +kernel
theorem dX0_init_13 : decode cX0_init 13 = .ok (.aload_n 1, 1) := by decide +kernel
theorem dX0_init_14 : decode cX0_init 14 = .ok (.iload_n 2, 1) := by decide +kernel
theorem dX0_init_15 : decode cX0_init 15 = .ok (.ifCond .ge 7, 3) := by decide +kernel
theorem dX0_init_18 : decode cX0_init 18 = .ok (.iconst 0, 1) := by decide +kernel
theorem dX0_init_19 : decode cX0_init 19 = .ok (.goto 4, 3) := by decide +kernel
theorem dX0_init_22 : decode cX0_init 22 = .ok (.iload_n 2, 1) := by decide +kernel
theorem dX0_init_23 : decode cX0_init 23 = .ok (.invokestatic 13, 3) := by decide +kernel
theorem dX0_init_26 : decode cX0_init 26 = .ok (.putfield 19, 3) := by decide +kernel
theorem dX0_init_29 : decode cX0_init 29 = .ok (.return_, 1) := by decide +kernel
theorem dX0_value_0 : decode cX0_value 0 = .ok (.iconst 0, 1) := by decide +kernel
theorem dX0_value_1 : decode cX0_value 1 = .ok (.istore 5, 2) := by decide +kernel
theorem dX0_value_3 : decode cX0_value 3 = .ok (.iconst 0, 1) := by decide +kernel
theorem dX0_value_4 : decode cX0_value 4 = .ok (.istore 6, 2) := by decide +kernel
theorem dX0_value_6 : decode cX0_value 6 = .ok (.iload 6, 2) := by decide +kernel
theorem dX0_value_8 : decode cX0_value 8 = .ok (.aload_n 0, 1) := by decide +kernel
theorem dX0_value_9 : decode cX0_value 9 = .ok (.getfield 19, 3) := by decide +kernel
theorem dX0_value_12 : decode cX0_value 12 = .ok (.arraylength, 1) := by decide +kernel
theorem dX0_value_13 : decode cX0_value 13 = .ok (.if_icmp .ge 109, 3) := by decide +kernel
theorem dX0_value_16 : decode cX0_value 16 = .ok (.aload_n 0, 1) := by decide +kernel
theorem dX0_value_17 : decode cX0_value 17 = .ok (.getfield 19, 3) := by decide +kernel
theorem dX0_value_20 : decode cX0_value 20 = .ok (.iload 6, 2) := by decide +kernel
theorem dX0_value_22 : decode cX0_value 22 = .ok (.iaload, 1) := by decide +kernel
theorem dX0_value_23 : decode cX0_value 23 = .ok (.istore 7, 2) := by decide +kernel
theorem dX0_value_25 : decode cX0_value 25 = .ok (.iload 7, 2) := by decide +kernel
theorem dX0_value_27 : decode cX0_value 27 = .ok (.bipush (-5), 2) := by decide +kernel
theorem dX0_value_29 : decode cX0_value 29 = .ok (.if_icmp .gt 57, 3) := by decide +kernel
theorem dX0_value_32 : decode cX0_value 32 = .ok (.iload 5, 2) := by decide +kernel
theorem dX0_value_34 : decode cX0_value 34 = .ok (.iconst 2, 1) := by decide +kernel
theorem dX0_value_35 : decode cX0_value 35 = .ok (.if_icmp .lt 81, 3) := by decide +kernel
theorem dX0_value_38 : decode cX0_value 38 = .ok (.iload 5, 2) := by decide +kernel
theorem dX0_value_40 : decode cX0_value 40 = .ok (.aload_n 0, 1) := by decide +kernel
theorem dX0_value_41 : decode cX0_value 41 = .ok (.getfield 9, 3) := by decide +kernel
theorem dX0_value_44 : decode cX0_value 44 = .ok (.arraylength, 1) := by decide +kernel
theorem dX0_value_45 : decode cX0_value 45 = .ok (.if_icmp .gt 71, 3) := by decide +kernel
theorem dX0_value_48 : decode cX0_value 48 = .ok (.aload_n 0, 1) := by decide +kernel
theorem dX0_value_49 : decode cX0_value 49 = .ok (.getfield 9, 3) := by decide +kernel
theorem dX0_value_52 : decode cX0_value 52 = .ok (.iload 5, 2) := by decide +kernel
theorem dX0_value_54 : decode cX0_value 54 = .ok (.iconst 2, 1) := by decide +kernel
theorem dX0_value_55 : decode cX0_value 55 = .ok (.isub, 1) := by decide +kernel
theorem dX0_value_56 : decode cX0_value 56 = .ok (.iload 7, 2) := by decide +kernel
theorem dX0_value_58 : decode cX0_value 58 = .ok (.aload_n 0, 1) := by decide +kernel
theorem dX0_value_59 : decode cX0_value 59 = .ok (.getfield 9, 3) := by decide +kernel
theorem dX0_value_62 : decode cX0_value 62 = .ok (.iload 5, 2) := by decide +kernel
theorem dX0_value_64 : decode cX0_value 64 = .ok (.iconst 2, 1) := by decide +kernel
theorem dX0_value_65 : decode cX0_value 65 = .ok (.isub, 1) := by decide +kernel
theorem dX0_value_66 : decode cX0_value 66 = .ok (.iaload, 1) := by decide +kernel
theorem dX0_value_67 : decode cX0_value 67 = .ok (.aload_n 0, 1) := by decide +kernel
theorem dX0_value_68 : decode cX0_value 68 = .ok (.getfield 9, 3) := by decide +kernel
theorem dX0_value_71 : decode cX0_value 71 = .ok (.iload 5, 2) := by decide +kernel
theorem dX0_value_73 : decode cX0_value 73 = .ok (.iconst 1, 1) := by decide +kernel
theorem dX0_value_74 : decode cX0_value 74 = .ok (.isub, 1) := by decide +kernel
theorem dX0_value_75 : decode cX0_value 75 = .ok (.iaload, 1) := by decide +kernel
theorem dX0_value_76 : decode cX0_value 76 = .ok (.invokestatic 22, 3) := by decide +kernel
theorem dX0_value_79 : decode cX0_value 79 = .ok (.iastore, 1) := by decide +kernel
theorem dX0_value_80 : decode cX0_value 80 = .ok (.iinc 5 (-1), 3) := by decide +kernel
theorem dX0_value_83 : decode cX0_value 83 = .ok (.goto 33, 3) := by decide +kernel
theorem dX0_value_86 : decode cX0_value 86 = .ok (.iload 5, 2) := by decide +kernel
theorem dX0_value_88 : decode cX0_value 88 = .ok (.aload_n 0, 1) := by decide +kernel
theorem dX0_value_89 : decode cX0_value 89 = .ok (.getfield 9, 3) := by decide +kernel
theorem dX0_value_92 : decode cX0_value 92 = .ok (.arraylength, 1) := by decide +kernel
theorem dX0_value_93 : decode cX0_value 93 = .ok (.if_icmp .ge 23, 3) := by decide +kernel
theorem dX0_value_96 : decode cX0_value 96 = .ok (.aload_n 0, 1) := by decide +kernel
theorem dX0_value_97 : decode cX0_value 97 = .ok (.getfield 9, 3) := by decide +kernel
theorem dX0_value_100 : decode cX0_value 100 = .ok (.iload 5, 2) := by decide +kernel
theorem dX0_value_102 : decode cX0_value 102 = .ok (.iload 7, 2) := by decide +kernel
theorem dX0_value_104 : decode cX0_value 104 = .ok (.iload_n 1, 1) := by decide +kernel
theorem dX0_value_105 : decode cX0_value 105 = .ok (.iload_n 2, 1) := by decide +kernel
theorem dX0_value_106 : decode cX0_value 106 = .ok (.iload_n 3, 1) := by decide +kernel
theorem dX0_value_107 : decode cX0_value 107 = .ok (.iload 4, 2) := by decide +kernel
theorem dX0_value_109 : decode cX0_value 109 = .ok (.invokestatic 26, 3) := by decide +kernel
theorem dX0_value_112 : decode cX0_value 112 = .ok (.iastore, 1) := by decide +kernel
theorem dX0_value_113 : decode cX0_value 113 = .ok (.iinc 5 1, 3) := by decide +kernel
theorem dX0_value_116 : decode cX0_value 116 = .ok (.iinc 6 1, 3) := by decide +kernel
theorem dX0_value_119 : decode cX0_value 119 = .ok (.goto (-113), 3) := by decide +kernel
theorem dX0_value_122 : decode cX0_value 122 = .ok (.iload 5, 2) := by decide +kernel
theorem dX0_value_124 : decode cX0_value 124 = .ok (.ifCond .ne 7, 3) := by decide +kernel
theorem dX0_value_127 : decode cX0_value 127 = .ok (.iconst 0, 1) := by decide +kernel
theorem dX0_value_128 : decode cX0_value 128 = .ok (.goto 9, 3) := by decide +kernel
theorem dX0_value_131 : decode cX0_value 131 = .ok (.aload_n 0, 1) := by decide +kernel
theorem dX0_value_132 : decode cX0_value 132 = .ok (.getfield 9, 3) := by decide +kernel
theorem dX0_value_135 : decode cX0_value 135 = .ok (.iconst 0, 1) := by decide +kernel
theorem dX0_value_136 : decode cX0_value 136 = .ok (.iaload, 1) := by decide +kernel
theorem dX0_value_137 : decode cX0_value 137 = .ok (.ireturn, 1) := by decide +kernel
theorem dX0_operand_0 : decode cX0_operand 0 = .ok (.iload_n 0, 1) := by decide +kernel
theorem dX0_operand_1 : decode cX0_operand 1 = .ok (.tableswitch 40 (-4) (-1) #[37, 35, 33, 31], 31) := by decide +kernel
theorem dX0_operand_32 : decode cX0_operand 32 = .ok (.iload_n 1, 1) := by decide +kernel
theorem dX0_operand_33 : decode cX0_operand 33 = .ok (.ireturn, 1) := by decide +kernel
theorem dX0_operand_34 : decode cX0_operand 34 = .ok (.iload_n 2, 1) := by decide +kernel
theorem dX0_operand_35 : decode cX0_operand 35 = .ok (.ireturn, 1) := by decide +kernel
theorem dX0_operand_36 : decode cX0_operand 36 = .ok (.iload_n 3, 1) := by decide +kernel
theorem dX0_operand_37 : decode cX0_operand 37 = .ok (.ireturn, 1) := by decide +kernel
theorem dX0_operand_38 : decode cX0_operand 38 = .ok (.iload 4, 2) := by decide +kernel
theorem dX0_operand_40 : decode cX0_operand 40 = .ok (.ireturn, 1) := by decide +kernel
theorem dX0_operand_41 : decode cX0_operand 41 = .ok (.iload_n 0, 1) := by decide +kernel
theorem dX0_operand_42 : decode cX0_operand 42 = .ok (.ireturn, 1) := by decide +kernel
theorem dX0_limited_0 : decode cX0_limited 0 = .ok (.iload_n 0, 1) := by decide +kernel
theorem dX0_limited_1 : decode cX0_limited 1 = .ok (.bipush (-5), 2) := by decide +kernel
theorem dX0_limited_3 : decode cX0_limited 3 = .ok (.if_icmp .ne 12, 3) := by decide +kernel
theorem dX0_limited_6 : decode cX0_limited 6 = .ok (.iload_n 1, 1) := by decide +kernel
theorem dX0_limited_7 : decode cX0_limited 7 = .ok (.i2l, 1) := by decide +kernel
theorem dX0_limited_8 : decode cX0_limited 8 = .ok (.iload_n 2, 1) := by decide +kernel
theorem dX0_limited_9 : decode cX0_limited 9 = .ok (.i2l, 1) := by decide +kernel
theorem dX0_limited_10 : decode cX0_limited 10 = .ok (.ladd, 1) := by decide +kernel
theorem dX0_limited_11 : decode cX0_limited 11 = .ok (.lstore_n 3, 1) := by decide +kernel
theorem dX0_limited_12 : decode cX0_limited 12 = .ok (.goto 46, 3) := by decide +kernel
theorem dX0_limited_15 : decode cX0_limited 15 = .ok (.iload_n 0, 1) := by decide +kernel
theorem dX0_limited_16 : decode cX0_limited 16 = .ok (.bipush (-6), 2) := by decide +kernel
theorem dX0_limited_18 : decode cX0_limited 18 = .ok (.if_icmp .ne 12, 3) := by decide +kernel
theorem dX0_limited_21 : decode cX0_limited 21 = .ok (.iload_n 1, 1) := by decide +kernel
theorem dX0_limited_22 : decode cX0_limited 22 = .ok (.i2l, 1) := by decide +kernel
theorem dX0_limited_23 : decode cX0_limited 23 = .ok (.iload_n 2, 1) := by decide +kernel
theorem dX0_limited_24 : decode cX0_limited 24 = .ok (.i2l, 1) := by decide +kernel
theorem dX0_limited_25 : decode cX0_limited 25 = .ok (.lsub, 1) := by decide +kernel
theorem dX0_limited_26 : decode cX0_limited 26 = .ok (.lstore_n 3, 1) := by decide +kernel
theorem dX0_limited_27 : decode cX0_limited 27 = .ok (.goto 31, 3) := by decide +kernel
theorem dX0_limited_30 : decode cX0_limited 30 = .ok (.iload_n 0, 1) := by decide +kernel
theorem dX0_limited_31 : decode cX0_limited 31 = .ok (.bipush (-7), 2) := by decide +kernel
theorem dX0_limited_33 : decode cX0_limited 33 = .ok (.if_icmp .ne 12, 3) := by decide +kernel
theorem dX0_limited_36 : decode cX0_limited 36 = .ok (.iload_n 1, 1) := by decide +kernel
theorem dX0_limited_37 : decode cX0_limited 37 = .ok (.i2l, 1) := by decide +kernel
theorem dX0_limited_38 : decode cX0_limited 38 = .ok (.iload_n 2, 1) := by decide +kernel
theorem dX0_limited_39 : decode cX0_limited 39 = .ok (.i2l, 1) := by decide +kernel
theorem dX0_limited_40 : decode cX0_limited 40 = .ok (.lmul, 1) := by decide +kernel
theorem dX0_limited_41 : decode cX0_limited 41 = .ok (.lstore_n 3, 1) := by decide +kernel
theorem dX0_limited_42 : decode cX0_limited 42 = .ok (.goto 16, 3) := by decide +kernel
theorem dX0_limited_45 : decode cX0_limited 45 = .ok (.iload_n 2, 1) := by decide +kernel
theorem dX0_limited_46 : decode cX0_limited 46 = .ok (.ifCond .ne 7, 3) := by decide +kernel
theorem dX0_limited_49 : decode cX0_limited 49 = .ok (.lconst 0, 1) := by decide +kernel
theorem dX0_limited_50 : decode cX0_limited 50 = .ok (.goto 7, 3) := by decide +kernel
theorem dX0_limited_53 : decode cX0_limited 53 = .ok (.iload_n 1, 1) := by decide +kernel
theorem dX0_limited_54 : decode cX0_limited 54 = .ok (.iload_n 2, 1) := by decide +kernel
theorem dX0_limited_55 : decode cX0_limited 55 = .ok (.idiv, 1) := by decide +kernel
theorem dX0_limited_56 : decode cX0_limited 56 = .ok (.i2l, 1) := by decide +kernel
theorem dX0_limited_57 : decode cX0_limited 57 = .ok (.lstore_n 3, 1) := by decide +kernel
theorem dX0_limited_58 : decode cX0_limited 58 = .ok (.ldc2_w 30, 3) := by decide +kernel
theorem dX0_limited_61 : decode cX0_limited 61 = .ok (.ldc2_w 32, 3) := by decide +kernel
theorem dX0_limited_64 : decode cX0_limited 64 = .ok (.lload_n 3, 1) := by decide +kernel
theorem dX0_limited_65 : decode cX0_limited 65 = .ok (.invokestatic 34, 3) := by decide +kernel
theorem dX0_limited_68 : decode cX0_limited 68 = .ok (.invokestatic 40, 3) := by decide +kernel
theorem dX0_limited_71 : decode cX0_limited 71 = .ok (.l2i, 1) := by decide +kernel
theorem dX0_limited_72 : decode cX0_limited 72 = .ok (.ireturn, 1) := by decide +kernel
theorem dX1_init_0 : decode cX1_init 0 = .ok (.aload_n 0, 1) := by decide +kernel
theorem dX1_init_1 : decode cX1_init 1 = .ok (.invokespecial 1, 3) := by decide +kernel
theorem dX1_init_4 : decode cX1_init 4 = .ok (.return_, 1) := by decide +kernel
theorem dX1_tell_0 : decode cX1_tell 0 = .ok (.iload_n 1, 1) := by decide +kernel
theorem dX1_tell_1 : decode cX1_tell 1 = .ok (.tableswitch 57 0 4 #[35, 40, 45, 50, 52], 35) := by decide +kernel
theorem dX1_tell_36 : decode cX1_tell 36 = .ok (.aload_n 0, 1) := by decide +kernel
theorem dX1_tell_37 : decode cX1_tell 37 = .ok (.getfield 7, 3) := by decide +kernel
theorem dX1_tell_40 : decode cX1_tell 40 = .ok (.ireturn, 1) := by decide +kernel
theorem dX1_tell_41 : decode cX1_tell 41 = .ok (.aload_n 0, 1) := by decide +kernel
theorem dX1_tell_42 : decode cX1_tell 42 = .ok (.getfield 13, 3) := by decide +kernel
theorem dX1_tell_45 : decode cX1_tell 45 = .ok (.ireturn, 1) := by decide +kernel
theorem dX1_tell_46 : decode cX1_tell 46 = .ok (.aload_n 0, 1) := by decide +kernel
theorem dX1_tell_47 : decode cX1_tell 47 = .ok (.getfield 16, 3) := by decide +kernel
theorem dX1_tell_50 : decode cX1_tell 50 = .ok (.ireturn, 1) := by decide +kernel
theorem dX1_tell_51 : decode cX1_tell 51 = .ok (.iload_n 2, 1) := by decide +kernel
theorem dX1_tell_52 : decode cX1_tell 52 = .ok (.ireturn, 1) := by decide +kernel
theorem dX1_tell_53 : decode cX1_tell 53 = .ok (.aload_n 0, 1) := by decide +kernel
theorem dX1_tell_54 : decode cX1_tell 54 = .ok (.getfield 19, 3) := by decide +kernel
theorem dX1_tell_57 : decode cX1_tell 57 = .ok (.ireturn, 1) := by decide +kernel
theorem dX1_tell_58 : decode cX1_tell 58 = .ok (.aload_n 0, 1) := by decide +kernel
theorem dX1_tell_59 : decode cX1_tell 59 = .ok (.getfield 22, 3) := by decide +kernel
theorem dX1_tell_62 : decode cX1_tell 62 = .ok (.ireturn, 1) := by decide +kernel
theorem dX2_init_0 : decode cX2_init 0 = .ok (.aload_n 0, 1) := by decide +kernel
theorem dX2_init_1 : decode cX2_init 1 = .ok (.invokespecial 1, 3) := by decide +kernel
theorem dX2_init_4 : decode cX2_init 4 = .ok (.aload_n 0, 1) := by decide +kernel
theorem dX2_init_5 : decode cX2_init 5 = .ok (.bipush 16, 2) := by decide +kernel
theorem dX2_init_7 : decode cX2_init 7 = .ok (.bipush 14, 2) := by decide +kernel
theorem dX2_init_9 : decode cX2_init 9 = .ok (.multianewarray 9 2, 4) := by decide +kernel
theorem dX2_init_13 : decode cX2_init 13 = .ok (.putfield 11, 3) := by decide +kernel
theorem dX2_init_16 : decode cX2_init 16 = .ok (.aload_n 0, 1) := by decide +kernel
theorem dX2_init_17 : decode cX2_init 17 = .ok (.bipush 16, 2) := by decide +kernel
theorem dX2_init_19 : decode cX2_init 19 = .ok (.newarray .int, 2) := by decide +kernel
theorem dX2_init_21 : decode cX2_init 21 = .ok (.putfield 14, 3) := by decide +kernel
theorem dX2_init_24 : decode cX2_init 24 = .ok (.return_, 1) := by decide +kernel
theorem dX2_begin_0 : decode cX2_begin 0 = .ok (.aload_n 0, 1) := by decide +kernel
theorem dX2_begin_1 : decode cX2_begin 1 = .ok (.getfield 14, 3) := by decide +kernel
theorem dX2_begin_4 : decode cX2_begin 4 = .ok (.iconst 0, 1) := by decide +kernel
theorem dX2_begin_5 : decode cX2_begin 5 = .ok (.invokestatic 18, 3) := by decide +kernel
theorem dX2_begin_8 : decode cX2_begin 8 = .ok (.aload_n 0, 1) := by decide +kernel
theorem dX2_begin_9 : decode cX2_begin 9 = .ok (.iconst 0, 1) := by decide +kernel
theorem dX2_begin_10 : decode cX2_begin 10 = .ok (.putfield 24, 3) := by decide +kernel
theorem dX2_begin_13 : decode cX2_begin 13 = .ok (.return_, 1) := by decide +kernel
theorem dX2_copyFrom_0 : decode cX2_copyFrom 0 = .ok (.iconst 0, 1) := by decide +kernel
theorem dX2_copyFrom_1 : decode cX2_copyFrom 1 = .ok (.istore_n 2, 1) := by decide +kernel
theorem dX2_copyFrom_2 : decode cX2_copyFrom 2 = .ok (.iload_n 2, 1) := by decide +kernel
theorem dX2_copyFrom_3 : decode cX2_copyFrom 3 = .ok (.bipush 16, 2) := by decide +kernel
theorem dX2_copyFrom_5 : decode cX2_copyFrom 5 = .ok (.if_icmp .ge 80, 3) := by decide +kernel
theorem dX2_copyFrom_8 : decode cX2_copyFrom 8 = .ok (.aload_n 1, 1) := by decide +kernel
theorem dX2_copyFrom_9 : decode cX2_copyFrom 9 = .ok (.getfield 11, 3) := by decide +kernel
theorem dX2_copyFrom_12 : decode cX2_copyFrom 12 = .ok (.iload_n 2, 1) := by decide +kernel
theorem dX2_copyFrom_13 : decode cX2_copyFrom 13 = .ok (.aaload, 1) := by decide +kernel
theorem dX2_copyFrom_14 : decode cX2_copyFrom 14 = .ok (.astore_n 3, 1) := by decide +kernel
theorem dX2_copyFrom_15 : decode cX2_copyFrom 15 = .ok (.aload_n 1, 1) := by decide +kernel
theorem dX2_copyFrom_16 : decode cX2_copyFrom 16 = .ok (.getfield 14, 3) := by decide +kernel
theorem dX2_copyFrom_19 : decode cX2_copyFrom 19 = .ok (.iload_n 2, 1) := by decide +kernel
theorem dX2_copyFrom_20 : decode cX2_copyFrom 20 = .ok (.iaload, 1) := by decide +kernel
theorem dX2_copyFrom_21 : decode cX2_copyFrom 21 = .ok (.bipush 7, 2) := by decide +kernel
theorem dX2_copyFrom_23 : decode cX2_copyFrom 23 = .ok (.imul, 1) := by decide +kernel
theorem dX2_copyFrom_24 : decode cX2_copyFrom 24 = .ok (.aload_n 3, 1) := by decide +kernel
theorem dX2_copyFrom_25 : decode cX2_copyFrom 25 = .ok (.arraylength, 1) := by decide +kernel
theorem dX2_copyFrom_26 : decode cX2_copyFrom 26 = .ok (.invokestatic 28, 3) := by decide +kernel
theorem dX2_copyFrom_29 : decode cX2_copyFrom 29 = .ok (.istore 4, 2) := by decide +kernel
theorem dX2_copyFrom_31 : decode cX2_copyFrom 31 = .ok (.iload 4, 2) := by decide +kernel
theorem dX2_copyFrom_33 : decode cX2_copyFrom 33 = .ok (.aload_n 0, 1) := by decide +kernel
theorem dX2_copyFrom_34 : decode cX2_copyFrom 34 = .ok (.getfield 11, 3) := by decide +kernel
theorem dX2_copyFrom_37 : decode cX2_copyFrom 37 = .ok (.iload_n 2, 1) := by decide +kernel
theorem dX2_copyFrom_38 : decode cX2_copyFrom 38 = .ok (.aaload, 1) := by decide +kernel
theorem dX2_copyFrom_39 : decode cX2_copyFrom 39 = .ok (.arraylength, 1) := by decide +kernel
theorem dX2_copyFrom_40 : decode cX2_copyFrom 40 = .ok (.if_icmp .le 13, 3) := by decide +kernel
theorem dX2_copyFrom_43 : decode cX2_copyFrom 43 = .ok (.aload_n 0, 1) := by decide +kernel
theorem dX2_copyFrom_44 : decode cX2_copyFrom 44 = .ok (.getfield 11, 3) := by decide +kernel
theorem dX2_copyFrom_47 : decode cX2_copyFrom 47 = .ok (.iload_n 2, 1) := by decide +kernel
theorem dX2_copyFrom_48 : decode cX2_copyFrom 48 = .ok (.aload_n 3, 1) := by decide +kernel
theorem dX2_copyFrom_49 : decode cX2_copyFrom 49 = .ok (.arraylength, 1) := by decide +kernel
theorem dX2_copyFrom_50 : decode cX2_copyFrom 50 = .ok (.newarray .int, 2) := by decide +kernel
theorem dX2_copyFrom_52 : decode cX2_copyFrom 52 = .ok (.aastore, 1) := by decide +kernel
theorem dX2_copyFrom_53 : decode cX2_copyFrom 53 = .ok (.aload_n 3, 1) := by decide +kernel
theorem dX2_copyFrom_54 : decode cX2_copyFrom 54 = .ok (.iconst 0, 1) := by decide +kernel
theorem dX2_copyFrom_55 : decode cX2_copyFrom 55 = .ok (.aload_n 0, 1) := by decide +kernel
theorem dX2_copyFrom_56 : decode cX2_copyFrom 56 = .ok (.getfield 11, 3) := by decide +kernel
theorem dX2_copyFrom_59 : decode cX2_copyFrom 59 = .ok (.iload_n 2, 1) := by decide +kernel
theorem dX2_copyFrom_60 : decode cX2_copyFrom 60 = .ok (.aaload, 1) := by decide +kernel
theorem dX2_copyFrom_61 : decode cX2_copyFrom 61 = .ok (.iconst 0, 1) := by decide +kernel
theorem dX2_copyFrom_62 : decode cX2_copyFrom 62 = .ok (.iload 4, 2) := by decide +kernel
theorem dX2_copyFrom_64 : decode cX2_copyFrom 64 = .ok (.invokestatic 34, 3) := by decide +kernel
theorem dX2_copyFrom_67 : decode cX2_copyFrom 67 = .ok (.aload_n 0, 1) := by decide +kernel
theorem dX2_copyFrom_68 : decode cX2_copyFrom 68 = .ok (.getfield 14, 3) := by decide +kernel
theorem dX2_copyFrom_71 : decode cX2_copyFrom 71 = .ok (.iload_n 2, 1) := by decide +kernel
theorem dX2_copyFrom_72 : decode cX2_copyFrom 72 = .ok (.aload_n 1, 1) := by decide +kernel
theorem dX2_copyFrom_73 : decode cX2_copyFrom 73 = .ok (.getfield 14, 3) := by decide +kernel
theorem dX2_copyFrom_76 : decode cX2_copyFrom 76 = .ok (.iload_n 2, 1) := by decide +kernel
theorem dX2_copyFrom_77 : decode cX2_copyFrom 77 = .ok (.iaload, 1) := by decide +kernel
theorem dX2_copyFrom_78 : decode cX2_copyFrom 78 = .ok (.iastore, 1) := by decide +kernel
theorem dX2_copyFrom_79 : decode cX2_copyFrom 79 = .ok (.iinc 2 1, 3) := by decide +kernel
theorem dX2_copyFrom_82 : decode cX2_copyFrom 82 = .ok (.goto (-80), 3) := by decide +kernel
theorem dX2_copyFrom_85 : decode cX2_copyFrom 85 = .ok (.aload_n 0, 1) := by decide +kernel
theorem dX2_copyFrom_86 : decode cX2_copyFrom 86 = .ok (.aload_n 1, 1) := by decide +kernel
theorem dX2_copyFrom_87 : decode cX2_copyFrom 87 = .ok (.getfield 24, 3) := by decide +kernel
theorem dX2_copyFrom_90 : decode cX2_copyFrom 90 = .ok (.putfield 24, 3) := by decide +kernel
theorem dX2_copyFrom_93 : decode cX2_copyFrom 93 = .ok (.return_, 1) := by decide +kernel
theorem dX2_countAt_0 : decode cX2_countAt 0 = .ok (.aload_n 0, 1) := by decide +kernel
theorem dX2_countAt_1 : decode cX2_countAt 1 = .ok (.getfield 14, 3) := by decide +kernel
theorem dX2_countAt_4 : decode cX2_countAt 4 = .ok (.iload_n 1, 1) := by decide +kernel
theorem dX2_countAt_5 : decode cX2_countAt 5 = .ok (.bipush 15, 2) := by decide +kernel
theorem dX2_countAt_7 : decode cX2_countAt 7 = .ok (.iand, 1) := by decide +kernel
theorem dX2_countAt_8 : decode cX2_countAt 8 = .ok (.iaload, 1) := by decide +kernel
theorem dX2_countAt_9 : decode cX2_countAt 9 = .ok (.ireturn, 1) := by decide +kernel
theorem dX2_add_0 : decode cX2_add 0 = .ok (.aload_n 0, 1) := by decide +kernel
theorem dX2_add_1 : decode cX2_add 1 = .ok (.getfield 24, 3) := by decide +kernel
theorem dX2_add_4 : decode cX2_add 4 = .ok (.sipush 16384, 3) := by decide +kernel
theorem dX2_add_7 : decode cX2_add 7 = .ok (.if_icmp .lt 5, 3) := by decide +kernel
theorem dX2_add_10 : decode cX2_add 10 = .ok (.iconst 0, 1) := by decide +kernel
theorem dX2_add_11 : decode cX2_add 11 = .ok (.ireturn, 1) := by decide +kernel
theorem dX2_add_12 : decode cX2_add 12 = .ok (.iload_n 1, 1) := by decide +kernel
theorem dX2_add_13 : decode cX2_add 13 = .ok (.bipush 15, 2) := by decide +kernel
theorem dX2_add_15 : decode cX2_add 15 = .ok (.iand, 1) := by decide +kernel
theorem dX2_add_16 : decode cX2_add 16 = .ok (.istore_n 3, 1) := by decide +kernel
theorem dX2_add_17 : decode cX2_add 17 = .ok (.aload_n 0, 1) := by decide +kernel
theorem dX2_add_18 : decode cX2_add 18 = .ok (.getfield 14, 3) := by decide +kernel
theorem dX2_add_21 : decode cX2_add 21 = .ok (.iload_n 3, 1) := by decide +kernel
theorem dX2_add_22 : decode cX2_add 22 = .ok (.iaload, 1) := by decide +kernel
theorem dX2_add_23 : decode cX2_add 23 = .ok (.bipush 7, 2) := by decide +kernel
theorem dX2_add_25 : decode cX2_add 25 = .ok (.imul, 1) := by decide +kernel
theorem dX2_add_26 : decode cX2_add 26 = .ok (.istore 4, 2) := by decide +kernel
theorem dX2_add_28 : decode cX2_add 28 = .ok (.iload 4, 2) := by decide +kernel
theorem dX2_add_30 : decode cX2_add 30 = .ok (.bipush 7, 2) := by decide +kernel
theorem dX2_add_32 : decode cX2_add 32 = .ok (.iadd, 1) := by decide +kernel
theorem dX2_add_33 : decode cX2_add 33 = .ok (.aload_n 0, 1) := by decide +kernel
theorem dX2_add_34 : decode cX2_add 34 = .ok (.getfield 11, 3) := by decide +kernel
theorem dX2_add_37 : decode cX2_add 37 = .ok (.iload_n 3, 1) := by decide +kernel
theorem dX2_add_38 : decode cX2_add 38 = .ok (.aaload, 1) := by decide +kernel
theorem dX2_add_39 : decode cX2_add 39 = .ok (.arraylength, 1) := by decide +kernel
theorem dX2_add_40 : decode cX2_add 40 = .ok (.if_icmp .le 47, 3) := by decide +kernel
theorem dX2_add_43 : decode cX2_add 43 = .ok (.iconst 2, 1) := by decide +kernel
theorem dX2_add_44 : decode cX2_add 44 = .ok (.iload 4, 2) := by decide +kernel
theorem dX2_add_46 : decode cX2_add 46 = .ok (.imul, 1) := by decide +kernel
theorem dX2_add_47 : decode cX2_add 47 = .ok (.bipush 7, 2) := by decide +kernel
theorem dX2_add_49 : decode cX2_add 49 = .ok (.iadd, 1) := by decide +kernel
theorem dX2_add_50 : decode cX2_add 50 = .ok (.newarray .int, 2) := by decide +kernel
theorem dX2_add_52 : decode cX2_add 52 = .ok (.astore 5, 2) := by decide +kernel
theorem dX2_add_54 : decode cX2_add 54 = .ok (.aload_n 0, 1) := by decide +kernel
theorem dX2_add_55 : decode cX2_add 55 = .ok (.getfield 11, 3) := by decide +kernel
theorem dX2_add_58 : decode cX2_add 58 = .ok (.iload_n 3, 1) := by decide +kernel
theorem dX2_add_59 : decode cX2_add 59 = .ok (.aaload, 1) := by decide +kernel
theorem dX2_add_60 : decode cX2_add 60 = .ok (.iconst 0, 1) := by decide +kernel
theorem dX2_add_61 : decode cX2_add 61 = .ok (.aload 5, 2) := by decide +kernel
theorem dX2_add_63 : decode cX2_add 63 = .ok (.iconst 0, 1) := by decide +kernel
theorem dX2_add_64 : decode cX2_add 64 = .ok (.iload 4, 2) := by decide +kernel
theorem dX2_add_66 : decode cX2_add 66 = .ok (.aload_n 0, 1) := by decide +kernel
theorem dX2_add_67 : decode cX2_add 67 = .ok (.getfield 11, 3) := by decide +kernel
theorem dX2_add_70 : decode cX2_add 70 = .ok (.iload_n 3, 1) := by decide +kernel
theorem dX2_add_71 : decode cX2_add 71 = .ok (.aaload, 1) := by decide +kernel
theorem dX2_add_72 : decode cX2_add 72 = .ok (.arraylength, 1) := by decide +kernel
theorem dX2_add_73 : decode cX2_add 73 = .ok (.invokestatic 28, 3) := by decide +kernel
theorem dX2_add_76 : decode cX2_add 76 = .ok (.invokestatic 34, 3) := by decide +kernel
theorem dX2_add_79 : decode cX2_add 79 = .ok (.aload_n 0, 1) := by decide +kernel
theorem dX2_add_80 : decode cX2_add 80 = .ok (.getfield 11, 3) := by decide +kernel
theorem dX2_add_83 : decode cX2_add 83 = .ok (.iload_n 3, 1) := by decide +kernel
theorem dX2_add_84 : decode cX2_add 84 = .ok (.aload 5, 2) := by decide +kernel
theorem dX2_add_86 : decode cX2_add 86 = .ok (.aastore, 1) := by decide +kernel
theorem dX2_add_87 : decode cX2_add 87 = .ok (.aload_n 0, 1) := by decide +kernel
theorem dX2_add_88 : decode cX2_add 88 = .ok (.getfield 11, 3) := by decide +kernel
theorem dX2_add_91 : decode cX2_add 91 = .ok (.iload_n 3, 1) := by decide +kernel
theorem dX2_add_92 : decode cX2_add 92 = .ok (.aaload, 1) := by decide +kernel
theorem dX2_add_93 : decode cX2_add 93 = .ok (.astore 5, 2) := by decide +kernel
theorem dX2_add_95 : decode cX2_add 95 = .ok (.aload 5, 2) := by decide +kernel
theorem dX2_add_97 : decode cX2_add 97 = .ok (.iload 4, 2) := by decide +kernel
theorem dX2_add_99 : decode cX2_add 99 = .ok (.aload_n 2, 1) := by decide +kernel
theorem dX2_add_100 : decode cX2_add 100 = .ok (.getfield 40, 3) := by decide +kernel
theorem dX2_add_103 : decode cX2_add 103 = .ok (.iastore, 1) := by decide +kernel
theorem dX2_add_104 : decode cX2_add 104 = .ok (.aload 5, 2) := by decide +kernel
theorem dX2_add_106 : decode cX2_add 106 = .ok (.iload 4, 2) := by decide +kernel
theorem dX2_add_108 : decode cX2_add 108 = .ok (.iconst 1, 1) := by decide +kernel
theorem dX2_add_109 : decode cX2_add 109 = .ok (.iadd, 1) := by decide +kernel
theorem dX2_add_110 : decode cX2_add 110 = .ok (.aload_n 2, 1) := by decide +kernel
theorem dX2_add_111 : decode cX2_add 111 = .ok (.getfield 45, 3) := by decide +kernel
theorem dX2_add_114 : decode cX2_add 114 = .ok (.iastore, 1) := by decide +kernel
theorem dX2_add_115 : decode cX2_add 115 = .ok (.aload 5, 2) := by decide +kernel
theorem dX2_add_117 : decode cX2_add 117 = .ok (.iload 4, 2) := by decide +kernel
theorem dX2_add_119 : decode cX2_add 119 = .ok (.iconst 2, 1) := by decide +kernel
theorem dX2_add_120 : decode cX2_add 120 = .ok (.iadd, 1) := by decide +kernel
theorem dX2_add_121 : decode cX2_add 121 = .ok (.aload_n 2, 1) := by decide +kernel
theorem dX2_add_122 : decode cX2_add 122 = .ok (.getfield 48, 3) := by decide +kernel
theorem dX2_add_125 : decode cX2_add 125 = .ok (.iastore, 1) := by decide +kernel
theorem dX2_add_126 : decode cX2_add 126 = .ok (.aload 5, 2) := by decide +kernel
theorem dX2_add_128 : decode cX2_add 128 = .ok (.iload 4, 2) := by decide +kernel
theorem dX2_add_130 : decode cX2_add 130 = .ok (.iconst 3, 1) := by decide +kernel
theorem dX2_add_131 : decode cX2_add 131 = .ok (.iadd, 1) := by decide +kernel
theorem dX2_add_132 : decode cX2_add 132 = .ok (.aload_n 2, 1) := by decide +kernel
theorem dX2_add_133 : decode cX2_add 133 = .ok (.getfield 51, 3) := by decide +kernel
theorem dX2_add_136 : decode cX2_add 136 = .ok (.iastore, 1) := by decide +kernel
theorem dX2_add_137 : decode cX2_add 137 = .ok (.aload 5, 2) := by decide +kernel
theorem dX2_add_139 : decode cX2_add 139 = .ok (.iload 4, 2) := by decide +kernel
theorem dX2_add_141 : decode cX2_add 141 = .ok (.iconst 4, 1) := by decide +kernel
theorem dX2_add_142 : decode cX2_add 142 = .ok (.iadd, 1) := by decide +kernel
theorem dX2_add_143 : decode cX2_add 143 = .ok (.aload_n 2, 1) := by decide +kernel
theorem dX2_add_144 : decode cX2_add 144 = .ok (.getfield 54, 3) := by decide +kernel
theorem dX2_add_147 : decode cX2_add 147 = .ok (.iastore, 1) := by decide +kernel
theorem dX2_add_148 : decode cX2_add 148 = .ok (.aload 5, 2) := by decide +kernel
theorem dX2_add_150 : decode cX2_add 150 = .ok (.iload 4, 2) := by decide +kernel
theorem dX2_add_152 : decode cX2_add 152 = .ok (.iconst 5, 1) := by decide +kernel
theorem dX2_add_153 : decode cX2_add 153 = .ok (.iadd, 1) := by decide +kernel
theorem dX2_add_154 : decode cX2_add 154 = .ok (.aload_n 2, 1) := by decide +kernel
theorem dX2_add_155 : decode cX2_add 155 = .ok (.getfield 57, 3) := by decide +kernel
theorem dX2_add_158 : decode cX2_add 158 = .ok (.iastore, 1) := by decide +kernel
theorem dX2_add_159 : decode cX2_add 159 = .ok (.aload 5, 2) := by decide +kernel
theorem dX2_add_161 : decode cX2_add 161 = .ok (.iload 4, 2) := by decide +kernel
theorem dX2_add_163 : decode cX2_add 163 = .ok (.bipush 6, 2) := by decide +kernel
theorem dX2_add_165 : decode cX2_add 165 = .ok (.iadd, 1) := by decide +kernel
theorem dX2_add_166 : decode cX2_add 166 = .ok (.aload_n 2, 1) := by decide +kernel
theorem dX2_add_167 : decode cX2_add 167 = .ok (.getfield 60, 3) := by decide +kernel
theorem dX2_add_170 : decode cX2_add 170 = .ok (.iastore, 1) := by decide +kernel
theorem dX2_add_171 : decode cX2_add 171 = .ok (.aload_n 0, 1) := by decide +kernel
theorem dX2_add_172 : decode cX2_add 172 = .ok (.getfield 14, 3) := by decide +kernel
theorem dX2_add_175 : decode cX2_add 175 = .ok (.iload_n 3, 1) := by decide +kernel
theorem dX2_add_176 : decode cX2_add 176 = .ok (.dup2, 1) := by decide +kernel
theorem dX2_add_177 : decode cX2_add 177 = .ok (.iaload, 1) := by decide +kernel
theorem dX2_add_178 : decode cX2_add 178 = .ok (.iconst 1, 1) := by decide +kernel
theorem dX2_add_179 : decode cX2_add 179 = .ok (.iadd, 1) := by decide +kernel
theorem dX2_add_180 : decode cX2_add 180 = .ok (.iastore, 1) := by decide +kernel
theorem dX2_add_181 : decode cX2_add 181 = .ok (.aload_n 0, 1) := by decide +kernel
theorem dX2_add_182 : decode cX2_add 182 = .ok (.dup, 1) := by decide +kernel
theorem dX2_add_183 : decode cX2_add 183 = .ok (.getfield 24, 3) := by decide +kernel
theorem dX2_add_186 : decode cX2_add 186 = .ok (.iconst 1, 1) := by decide +kernel
theorem dX2_add_187 : decode cX2_add 187 = .ok (.iadd, 1) := by decide +kernel
theorem dX2_add_188 : decode cX2_add 188 = .ok (.putfield 24, 3) := by decide +kernel
theorem dX2_add_191 : decode cX2_add 191 = .ok (.iconst 1, 1) := by decide +kernel
theorem dX2_add_192 : decode cX2_add 192 = .ok (.ireturn, 1) := by decide +kernel
theorem dX2_read_0 : decode cX2_read 0 = .ok (.iload_n 1, 1) := by decide +kernel
theorem dX2_read_1 : decode cX2_read 1 = .ok (.bipush 15, 2) := by decide +kernel
theorem dX2_read_3 : decode cX2_read 3 = .ok (.iand, 1) := by decide +kernel
theorem dX2_read_4 : decode cX2_read 4 = .ok (.istore 4, 2) := by decide +kernel
theorem dX2_read_6 : decode cX2_read 6 = .ok (.iload_n 2, 1) := by decide +kernel
theorem dX2_read_7 : decode cX2_read 7 = .ok (.ifCond .lt 31, 3) := by decide +kernel
theorem dX2_read_10 : decode cX2_read 10 = .ok (.iload_n 2, 1) := by decide +kernel
theorem dX2_read_11 : decode cX2_read 11 = .ok (.aload_n 0, 1) := by decide +kernel
theorem dX2_read_12 : decode cX2_read 12 = .ok (.getfield 14, 3) := by decide +kernel
theorem dX2_read_15 : decode cX2_read 15 = .ok (.iload 4, 2) := by decide +kernel
theorem dX2_read_17 : decode cX2_read 17 = .ok (.iaload, 1) := by decide +kernel
theorem dX2_read_18 : decode cX2_read 18 = .ok (.if_icmp .ge 20, 3) := by decide +kernel
theorem dX2_read_21 : decode cX2_read 21 = .ok (.iload_n 2, 1) := by decide +kernel
theorem dX2_read_22 : decode cX2_read 22 = .ok (.iconst 1, 1) := by decide +kernel
theorem dX2_read_23 : decode cX2_read 23 = .ok (.iadd, 1) := by decide +kernel
theorem dX2_read_24 : decode cX2_read 24 = .ok (.bipush 7, 2) := by decide +kernel
theorem dX2_read_26 : decode cX2_read 26 = .ok (.imul, 1) := by decide +kernel
theorem dX2_read_27 : decode cX2_read 27 = .ok (.aload_n 0, 1) := by decide +kernel
theorem dX2_read_28 : decode cX2_read 28 = .ok (.getfield 11, 3) := by decide +kernel
theorem dX2_read_31 : decode cX2_read 31 = .ok (.iload 4, 2) := by decide +kernel
theorem dX2_read_33 : decode cX2_read 33 = .ok (.aaload, 1) := by decide +kernel
theorem dX2_read_34 : decode cX2_read 34 = .ok (.arraylength, 1) := by decide +kernel
theorem dX2_read_35 : decode cX2_read 35 = .ok (.if_icmp .le 5, 3) := by decide +kernel
theorem dX2_read_38 : decode cX2_read 38 = .ok (.iconst 0, 1) := by decide +kernel
theorem dX2_read_39 : decode cX2_read 39 = .ok (.ireturn, 1) := by decide +kernel
theorem dX2_read_40 : decode cX2_read 40 = .ok (.aload_n 0, 1) := by decide +kernel
theorem dX2_read_41 : decode cX2_read 41 = .ok (.getfield 11, 3) := by decide +kernel
theorem dX2_read_44 : decode cX2_read 44 = .ok (.iload 4, 2) := by decide +kernel
theorem dX2_read_46 : decode cX2_read 46 = .ok (.aaload, 1) := by decide +kernel
theorem dX2_read_47 : decode cX2_read 47 = .ok (.astore 5, 2) := by decide +kernel
theorem dX2_read_49 : decode cX2_read 49 = .ok (.iload_n 2, 1) := by decide +kernel
theorem dX2_read_50 : decode cX2_read 50 = .ok (.bipush 7, 2) := by decide +kernel
theorem dX2_read_52 : decode cX2_read 52 = .ok (.imul, 1) := by decide +kernel
theorem dX2_read_53 : decode cX2_read 53 = .ok (.istore 6, 2) := by decide +kernel
theorem dX2_read_55 : decode cX2_read 55 = .ok (.aload_n 3, 1) := by decide +kernel
theorem dX2_read_56 : decode cX2_read 56 = .ok (.aload 5, 2) := by decide +kernel
theorem dX2_read_58 : decode cX2_read 58 = .ok (.iload 6, 2) := by decide +kernel
theorem dX2_read_60 : decode cX2_read 60 = .ok (.iaload, 1) := by decide +kernel
theorem dX2_read_61 : decode cX2_read 61 = .ok (.putfield 40, 3) := by decide +kernel
theorem dX2_read_64 : decode cX2_read 64 = .ok (.aload_n 3, 1) := by decide +kernel
theorem dX2_read_65 : decode cX2_read 65 = .ok (.aload 5, 2) := by decide +kernel
theorem dX2_read_67 : decode cX2_read 67 = .ok (.iload 6, 2) := by decide +kernel
theorem dX2_read_69 : decode cX2_read 69 = .ok (.iconst 1, 1) := by decide +kernel
theorem dX2_read_70 : decode cX2_read 70 = .ok (.iadd, 1) := by decide +kernel
theorem dX2_read_71 : decode cX2_read 71 = .ok (.iaload, 1) := by decide +kernel
theorem dX2_read_72 : decode cX2_read 72 = .ok (.putfield 45, 3) := by decide +kernel
theorem dX2_read_75 : decode cX2_read 75 = .ok (.aload_n 3, 1) := by decide +kernel
theorem dX2_read_76 : decode cX2_read 76 = .ok (.aload 5, 2) := by decide +kernel
theorem dX2_read_78 : decode cX2_read 78 = .ok (.iload 6, 2) := by decide +kernel
theorem dX2_read_80 : decode cX2_read 80 = .ok (.iconst 2, 1) := by decide +kernel
theorem dX2_read_81 : decode cX2_read 81 = .ok (.iadd, 1) := by decide +kernel
theorem dX2_read_82 : decode cX2_read 82 = .ok (.iaload, 1) := by decide +kernel
theorem dX2_read_83 : decode cX2_read 83 = .ok (.putfield 48, 3) := by decide +kernel
theorem dX2_read_86 : decode cX2_read 86 = .ok (.aload_n 3, 1) := by decide +kernel
theorem dX2_read_87 : decode cX2_read 87 = .ok (.aload 5, 2) := by decide +kernel
theorem dX2_read_89 : decode cX2_read 89 = .ok (.iload 6, 2) := by decide +kernel
theorem dX2_read_91 : decode cX2_read 91 = .ok (.iconst 3, 1) := by decide +kernel
theorem dX2_read_92 : decode cX2_read 92 = .ok (.iadd, 1) := by decide +kernel
theorem dX2_read_93 : decode cX2_read 93 = .ok (.iaload, 1) := by decide +kernel
theorem dX2_read_94 : decode cX2_read 94 = .ok (.putfield 51, 3) := by decide +kernel
theorem dX2_read_97 : decode cX2_read 97 = .ok (.aload_n 3, 1) := by decide +kernel
theorem dX2_read_98 : decode cX2_read 98 = .ok (.aload 5, 2) := by decide +kernel
theorem dX2_read_100 : decode cX2_read 100 = .ok (.iload 6, 2) := by decide +kernel
theorem dX2_read_102 : decode cX2_read 102 = .ok (.iconst 4, 1) := by decide +kernel
theorem dX2_read_103 : decode cX2_read 103 = .ok (.iadd, 1) := by decide +kernel
theorem dX2_read_104 : decode cX2_read 104 = .ok (.iaload, 1) := by decide +kernel
theorem dX2_read_105 : decode cX2_read 105 = .ok (.putfield 54, 3) := by decide +kernel
theorem dX2_read_108 : decode cX2_read 108 = .ok (.aload_n 3, 1) := by decide +kernel
theorem dX2_read_109 : decode cX2_read 109 = .ok (.aload 5, 2) := by decide +kernel
theorem dX2_read_111 : decode cX2_read 111 = .ok (.iload 6, 2) := by decide +kernel
theorem dX2_read_113 : decode cX2_read 113 = .ok (.iconst 5, 1) := by decide +kernel
theorem dX2_read_114 : decode cX2_read 114 = .ok (.iadd, 1) := by decide +kernel
theorem dX2_read_115 : decode cX2_read 115 = .ok (.iaload, 1) := by decide +kernel
theorem dX2_read_116 : decode cX2_read 116 = .ok (.putfield 57, 3) := by decide +kernel
theorem dX2_read_119 : decode cX2_read 119 = .ok (.aload_n 3, 1) := by decide +kernel
theorem dX2_read_120 : decode cX2_read 120 = .ok (.aload 5, 2) := by decide +kernel
theorem dX2_read_122 : decode cX2_read 122 = .ok (.iload 6, 2) := by decide +kernel
theorem dX2_read_124 : decode cX2_read 124 = .ok (.bipush 6, 2) := by decide +kernel
theorem dX2_read_126 : decode cX2_read 126 = .ok (.iadd, 1) := by decide +kernel
theorem dX2_read_127 : decode cX2_read 127 = .ok (.iaload, 1) := by decide +kernel
theorem dX2_read_128 : decode cX2_read 128 = .ok (.putfield 60, 3) := by decide +kernel
theorem dX2_read_131 : decode cX2_read 131 = .ok (.iconst 1, 1) := by decide +kernel
theorem dX2_read_132 : decode cX2_read 132 = .ok (.ireturn, 1) := by decide +kernel
theorem dX2_clear_0 : decode cX2_clear 0 = .ok (.aload_n 0, 1) := by decide +kernel
theorem dX2_clear_1 : decode cX2_clear 1 = .ok (.dup, 1) := by decide +kernel
theorem dX2_clear_2 : decode cX2_clear 2 = .ok (.getfield 24, 3) := by decide +kernel
theorem dX2_clear_5 : decode cX2_clear 5 = .ok (.aload_n 0, 1) := by decide +kernel
theorem dX2_clear_6 : decode cX2_clear 6 = .ok (.getfield 14, 3) := by decide +kernel
theorem dX2_clear_9 : decode cX2_clear 9 = .ok (.iload_n 1, 1) := by decide +kernel
theorem dX2_clear_10 : decode cX2_clear 10 = .ok (.bipush 15, 2) := by decide +kernel
theorem dX2_clear_12 : decode cX2_clear 12 = .ok (.iand, 1) := by decide +kernel
theorem dX2_clear_13 : decode cX2_clear 13 = .ok (.iaload, 1) := by decide +kernel
theorem dX2_clear_14 : decode cX2_clear 14 = .ok (.isub, 1) := by decide +kernel
theorem dX2_clear_15 : decode cX2_clear 15 = .ok (.putfield 24, 3) := by decide +kernel
theorem dX2_clear_18 : decode cX2_clear 18 = .ok (.aload_n 0, 1) := by decide +kernel
theorem dX2_clear_19 : decode cX2_clear 19 = .ok (.getfield 14, 3) := by decide +kernel
theorem dX2_clear_22 : decode cX2_clear 22 = .ok (.iload_n 1, 1) := by decide +kernel
theorem dX2_clear_23 : decode cX2_clear 23 = .ok (.bipush 15, 2) := by decide +kernel
theorem dX2_clear_25 : decode cX2_clear 25 = .ok (.iand, 1) := by decide +kernel
theorem dX2_clear_26 : decode cX2_clear 26 = .ok (.iconst 0, 1) := by decide +kernel
theorem dX2_clear_27 : decode cX2_clear 27 = .ok (.iastore, 1) := by decide +kernel
theorem dX2_clear_28 : decode cX2_clear 28 = .ok (.return_, 1) := by decide +kernel
theorem dX3_init_0 : decode cX3_init 0 = .ok (.aload_n 0, 1) := by decide +kernel
theorem dX3_init_1 : decode cX3_init 1 = .ok (.invokespecial 1, 3) := by decide +kernel
theorem dX3_init_4 : decode cX3_init 4 = .ok (.return_, 1) := by decide +kernel
theorem dX3_begin_0 : decode cX3_begin 0 = .ok (.aload_n 0, 1) := by decide +kernel
theorem dX3_begin_1 : decode cX3_begin 1 = .ok (.iconst 1, 1) := by decide +kernel
theorem dX3_begin_2 : decode cX3_begin 2 = .ok (.putfield 7, 3) := by decide +kernel
theorem dX3_begin_5 : decode cX3_begin 5 = .ok (.aload_n 0, 1) := by decide +kernel
theorem dX3_begin_6 : decode cX3_begin 6 = .ok (.iconst 0, 1) := by decide +kernel
theorem dX3_begin_7 : decode cX3_begin 7 = .ok (.putfield 13, 3) := by decide +kernel
theorem dX3_begin_10 : decode cX3_begin 10 = .ok (.aload_n 0, 1) := by decide +kernel
theorem dX3_begin_11 : decode cX3_begin 11 = .ok (.iconst 0, 1) := by decide +kernel
theorem dX3_begin_12 : decode cX3_begin 12 = .ok (.putfield 17, 3) := by decide +kernel
theorem dX3_begin_15 : decode cX3_begin 15 = .ok (.aload_n 0, 1) := by decide +kernel
theorem dX3_begin_16 : decode cX3_begin 16 = .ok (.invokevirtual 20, 3) := by decide +kernel
theorem dX3_begin_19 : decode cX3_begin 19 = .ok (.aload_n 0, 1) := by decide +kernel
theorem dX3_begin_20 : decode cX3_begin 20 = .ok (.iconst 0, 1) := by decide +kernel
theorem dX3_begin_21 : decode cX3_begin 21 = .ok (.putfield 23, 3) := by decide +kernel
theorem dX3_begin_24 : decode cX3_begin 24 = .ok (.aload_n 0, 1) := by decide +kernel
theorem dX3_begin_25 : decode cX3_begin 25 = .ok (.iconst 0, 1) := by decide +kernel
theorem dX3_begin_26 : decode cX3_begin 26 = .ok (.putfield 26, 3) := by decide +kernel
theorem dX3_begin_29 : decode cX3_begin 29 = .ok (.aload_n 0, 1) := by decide +kernel
theorem dX3_begin_30 : decode cX3_begin 30 = .ok (.iconst (-1), 1) := by decide +kernel
theorem dX3_begin_31 : decode cX3_begin 31 = .ok (.putfield 29, 3) := by decide +kernel
theorem dX3_begin_34 : decode cX3_begin 34 = .ok (.return_, 1) := by decide +kernel
theorem dX3_copyFrom_0 : decode cX3_copyFrom 0 = .ok (.aload_n 0, 1) := by decide +kernel
theorem dX3_copyFrom_1 : decode cX3_copyFrom 1 = .ok (.aload_n 1, 1) := by decide +kernel
theorem dX3_copyFrom_2 : decode cX3_copyFrom 2 = .ok (.getfield 7, 3) := by decide +kernel
theorem dX3_copyFrom_5 : decode cX3_copyFrom 5 = .ok (.putfield 7, 3) := by decide +kernel
theorem dX3_copyFrom_8 : decode cX3_copyFrom 8 = .ok (.aload_n 0, 1) := by decide +kernel
theorem dX3_copyFrom_9 : decode cX3_copyFrom 9 = .ok (.aload_n 1, 1) := by decide +kernel
theorem dX3_copyFrom_10 : decode cX3_copyFrom 10 = .ok (.getfield 13, 3) := by decide +kernel
theorem dX3_copyFrom_13 : decode cX3_copyFrom 13 = .ok (.putfield 13, 3) := by decide +kernel
theorem dX3_copyFrom_16 : decode cX3_copyFrom 16 = .ok (.aload_n 0, 1) := by decide +kernel
theorem dX3_copyFrom_17 : decode cX3_copyFrom 17 = .ok (.aload_n 1, 1) := by decide +kernel
theorem dX3_copyFrom_18 : decode cX3_copyFrom 18 = .ok (.getfield 17, 3) := by decide +kernel
theorem dX3_copyFrom_21 : decode cX3_copyFrom 21 = .ok (.putfield 17, 3) := by decide +kernel
theorem dX3_copyFrom_24 : decode cX3_copyFrom 24 = .ok (.aload_n 0, 1) := by decide +kernel
theorem dX3_copyFrom_25 : decode cX3_copyFrom 25 = .ok (.aload_n 1, 1) := by decide +kernel
theorem dX3_copyFrom_26 : decode cX3_copyFrom 26 = .ok (.getfield 32, 3) := by decide +kernel
theorem dX3_copyFrom_29 : decode cX3_copyFrom 29 = .ok (.putfield 32, 3) := by decide +kernel
theorem dX3_copyFrom_32 : decode cX3_copyFrom 32 = .ok (.aload_n 0, 1) := by decide +kernel
theorem dX3_copyFrom_33 : decode cX3_copyFrom 33 = .ok (.aload_n 1, 1) := by decide +kernel
theorem dX3_copyFrom_34 : decode cX3_copyFrom 34 = .ok (.getfield 35, 3) := by decide +kernel
theorem dX3_copyFrom_37 : decode cX3_copyFrom 37 = .ok (.putfield 35, 3) := by decide +kernel
theorem dX3_copyFrom_40 : decode cX3_copyFrom 40 = .ok (.aload_n 0, 1) := by decide +kernel
theorem dX3_copyFrom_41 : decode cX3_copyFrom 41 = .ok (.aload_n 1, 1) := by decide +kernel
theorem dX3_copyFrom_42 : decode cX3_copyFrom 42 = .ok (.getfield 38, 3) := by decide +kernel
theorem dX3_copyFrom_45 : decode cX3_copyFrom 45 = .ok (.putfield 38, 3) := by decide +kernel
theorem dX3_copyFrom_48 : decode cX3_copyFrom 48 = .ok (.aload_n 0, 1) := by decide +kernel
theorem dX3_copyFrom_49 : decode cX3_copyFrom 49 = .ok (.aload_n 1, 1) := by decide +kernel
theorem dX3_copyFrom_50 : decode cX3_copyFrom 50 = .ok (.getfield 41, 3) := by decide +kernel
theorem dX3_copyFrom_53 : decode cX3_copyFrom 53 = .ok (.putfield 41, 3) := by decide +kernel
theorem dX3_copyFrom_56 : decode cX3_copyFrom 56 = .ok (.aload_n 0, 1) := by decide +kernel
theorem dX3_copyFrom_57 : decode cX3_copyFrom 57 = .ok (.aload_n 1, 1) := by decide +kernel
theorem dX3_copyFrom_58 : decode cX3_copyFrom 58 = .ok (.getfield 23, 3) := by decide +kernel
theorem dX3_copyFrom_61 : decode cX3_copyFrom 61 = .ok (.putfield 23, 3) := by decide +kernel
theorem dX3_copyFrom_64 : decode cX3_copyFrom 64 = .ok (.aload_n 0, 1) := by decide +kernel
theorem dX3_copyFrom_65 : decode cX3_copyFrom 65 = .ok (.aload_n 1, 1) := by decide +kernel
theorem dX3_copyFrom_66 : decode cX3_copyFrom 66 = .ok (.getfield 26, 3) := by decide +kernel
theorem dX3_copyFrom_69 : decode cX3_copyFrom 69 = .ok (.putfield 26, 3) := by decide +kernel
theorem dX3_copyFrom_72 : decode cX3_copyFrom 72 = .ok (.aload_n 0, 1) := by decide +kernel
theorem dX3_copyFrom_73 : decode cX3_copyFrom 73 = .ok (.aload_n 1, 1) := by decide +kernel
theorem dX3_copyFrom_74 : decode cX3_copyFrom 74 = .ok (.getfield 29, 3) := by decide +kernel
theorem dX3_copyFrom_77 : decode cX3_copyFrom 77 = .ok (.putfield 29, 3) := by decide +kernel
theorem dX3_copyFrom_80 : decode cX3_copyFrom 80 = .ok (.return_, 1) := by decide +kernel
theorem dX3_turn_0 : decode cX3_turn 0 = .ok (.aload_n 0, 1) := by decide +kernel
theorem dX3_turn_1 : decode cX3_turn 1 = .ok (.getfield 7, 3) := by decide +kernel
theorem dX3_turn_4 : decode cX3_turn 4 = .ok (.istore_n 2, 1) := by decide +kernel
theorem dX3_turn_5 : decode cX3_turn 5 = .ok (.aload_n 0, 1) := by decide +kernel
theorem dX3_turn_6 : decode cX3_turn 6 = .ok (.iload_n 1, 1) := by decide +kernel
theorem dX3_turn_7 : decode cX3_turn 7 = .ok (.putfield 7, 3) := by decide +kernel
theorem dX3_turn_10 : decode cX3_turn 10 = .ok (.iload_n 1, 1) := by decide +kernel
theorem dX3_turn_11 : decode cX3_turn 11 = .ok (.ifCond .ne 7, 3) := by decide +kernel
theorem dX3_turn_14 : decode cX3_turn 14 = .ok (.aload_n 0, 1) := by decide +kernel
theorem dX3_turn_15 : decode cX3_turn 15 = .ok (.invokevirtual 20, 3) := by decide +kernel
theorem dX3_turn_18 : decode cX3_turn 18 = .ok (.iload_n 2, 1) := by decide +kernel
theorem dX3_turn_19 : decode cX3_turn 19 = .ok (.ireturn, 1) := by decide +kernel
theorem dX3_takePlan_0 : decode cX3_takePlan 0 = .ok (.aload_n 0, 1) := by decide +kernel
theorem dX3_takePlan_1 : decode cX3_takePlan 1 = .ok (.getfield 35, 3) := by decide +kernel
theorem dX3_takePlan_4 : decode cX3_takePlan 4 = .ok (.iload_n 1, 1) := by decide +kernel
theorem dX3_takePlan_5 : decode cX3_takePlan 5 = .ok (.if_icmp .le 4, 3) := by decide +kernel
theorem dX3_takePlan_8 : decode cX3_takePlan 8 = .ok (.return_, 1) := by decide +kernel
theorem dX3_takePlan_9 : decode cX3_takePlan 9 = .ok (.aload_n 0, 1) := by decide +kernel
theorem dX3_takePlan_10 : decode cX3_takePlan 10 = .ok (.iload 4, 2) := by decide +kernel
theorem dX3_takePlan_12 : decode cX3_takePlan 12 = .ok (.putfield 32, 3) := by decide +kernel
theorem dX3_takePlan_15 : decode cX3_takePlan 15 = .ok (.aload_n 0, 1) := by decide +kernel
theorem dX3_takePlan_16 : decode cX3_takePlan 16 = .ok (.iload_n 1, 1) := by decide +kernel
theorem dX3_takePlan_17 : decode cX3_takePlan 17 = .ok (.putfield 35, 3) := by decide +kernel
theorem dX3_takePlan_20 : decode cX3_takePlan 20 = .ok (.aload_n 0, 1) := by decide +kernel
theorem dX3_takePlan_21 : decode cX3_takePlan 21 = .ok (.iload_n 2, 1) := by decide +kernel
theorem dX3_takePlan_22 : decode cX3_takePlan 22 = .ok (.putfield 38, 3) := by decide +kernel
theorem dX3_takePlan_25 : decode cX3_takePlan 25 = .ok (.aload_n 0, 1) := by decide +kernel
theorem dX3_takePlan_26 : decode cX3_takePlan 26 = .ok (.iload_n 3, 1) := by decide +kernel
theorem dX3_takePlan_27 : decode cX3_takePlan 27 = .ok (.putfield 41, 3) := by decide +kernel
theorem dX3_takePlan_30 : decode cX3_takePlan 30 = .ok (.return_, 1) := by decide +kernel
theorem dX3_dropPlan_0 : decode cX3_dropPlan 0 = .ok (.aload_n 0, 1) := by decide +kernel
theorem dX3_dropPlan_1 : decode cX3_dropPlan 1 = .ok (.iconst 0, 1) := by decide +kernel
theorem dX3_dropPlan_2 : decode cX3_dropPlan 2 = .ok (.putfield 32, 3) := by decide +kernel
theorem dX3_dropPlan_5 : decode cX3_dropPlan 5 = .ok (.aload_n 0, 1) := by decide +kernel
theorem dX3_dropPlan_6 : decode cX3_dropPlan 6 = .ok (.iconst (-1), 1) := by decide +kernel
theorem dX3_dropPlan_7 : decode cX3_dropPlan 7 = .ok (.putfield 35, 3) := by decide +kernel
theorem dX3_dropPlan_10 : decode cX3_dropPlan 10 = .ok (.return_, 1) := by decide +kernel
theorem dX3_canChange_0 : decode cX3_canChange 0 = .ok (.aload_n 0, 1) := by decide +kernel
theorem dX3_canChange_1 : decode cX3_canChange 1 = .ok (.getfield 7, 3) := by decide +kernel
theorem dX3_canChange_4 : decode cX3_canChange 4 = .ok (.ifCond .eq 23, 3) := by decide +kernel
theorem dX3_canChange_7 : decode cX3_canChange 7 = .ok (.aload_n 0, 1) := by decide +kernel
theorem dX3_canChange_8 : decode cX3_canChange 8 = .ok (.getfield 32, 3) := by decide +kernel
theorem dX3_canChange_11 : decode cX3_canChange 11 = .ok (.iconst 2, 1) := by decide +kernel
theorem dX3_canChange_12 : decode cX3_canChange 12 = .ok (.if_icmp .ne 15, 3) := by decide +kernel
theorem dX3_canChange_15 : decode cX3_canChange 15 = .ok (.iload_n 1, 1) := by decide +kernel
theorem dX3_canChange_16 : decode cX3_canChange 16 = .ok (.aload_n 0, 1) := by decide +kernel
theorem dX3_canChange_17 : decode cX3_canChange 17 = .ok (.getfield 41, 3) := by decide +kernel
theorem dX3_canChange_20 : decode cX3_canChange 20 = .ok (.if_icmp .lt 7, 3) := by decide +kernel
theorem dX3_canChange_23 : decode cX3_canChange 23 = .ok (.iconst 1, 1) := by decide +kernel
theorem dX3_canChange_24 : decode cX3_canChange 24 = .ok (.goto 4, 3) := by decide +kernel
theorem dX3_canChange_27 : decode cX3_canChange 27 = .ok (.iconst 0, 1) := by decide +kernel
theorem dX3_canChange_28 : decode cX3_canChange 28 = .ok (.ireturn, 1) := by decide +kernel
theorem dX3_change_0 : decode cX3_change 0 = .ok (.aload_n 0, 1) := by decide +kernel
theorem dX3_change_1 : decode cX3_change 1 = .ok (.aload_n 0, 1) := by decide +kernel
theorem dX3_change_2 : decode cX3_change 2 = .ok (.getfield 38, 3) := by decide +kernel
theorem dX3_change_5 : decode cX3_change 5 = .ok (.putfield 17, 3) := by decide +kernel
theorem dX3_change_8 : decode cX3_change 8 = .ok (.aload_n 0, 1) := by decide +kernel
theorem dX3_change_9 : decode cX3_change 9 = .ok (.dup, 1) := by decide +kernel
theorem dX3_change_10 : decode cX3_change 10 = .ok (.getfield 23, 3) := by decide +kernel
theorem dX3_change_13 : decode cX3_change 13 = .ok (.iconst 1, 1) := by decide +kernel
theorem dX3_change_14 : decode cX3_change 14 = .ok (.iadd, 1) := by decide +kernel
theorem dX3_change_15 : decode cX3_change 15 = .ok (.putfield 23, 3) := by decide +kernel
theorem dX3_change_18 : decode cX3_change 18 = .ok (.iload_n 2, 1) := by decide +kernel
theorem dX3_change_19 : decode cX3_change 19 = .ok (.ifCond .eq 13, 3) := by decide +kernel
theorem dX3_change_22 : decode cX3_change 22 = .ok (.aload_n 0, 1) := by decide +kernel
theorem dX3_change_23 : decode cX3_change 23 = .ok (.dup, 1) := by decide +kernel
theorem dX3_change_24 : decode cX3_change 24 = .ok (.getfield 26, 3) := by decide +kernel
theorem dX3_change_27 : decode cX3_change 27 = .ok (.iconst 1, 1) := by decide +kernel
theorem dX3_change_28 : decode cX3_change 28 = .ok (.iadd, 1) := by decide +kernel
theorem dX3_change_29 : decode cX3_change 29 = .ok (.putfield 26, 3) := by decide +kernel
theorem dX3_change_32 : decode cX3_change 32 = .ok (.aload_n 0, 1) := by decide +kernel
theorem dX3_change_33 : decode cX3_change 33 = .ok (.iload_n 1, 1) := by decide +kernel
theorem dX3_change_34 : decode cX3_change 34 = .ok (.putfield 29, 3) := by decide +kernel
theorem dX3_change_37 : decode cX3_change 37 = .ok (.aload_n 0, 1) := by decide +kernel
theorem dX3_change_38 : decode cX3_change 38 = .ok (.invokevirtual 20, 3) := by decide +kernel
theorem dX3_change_41 : decode cX3_change 41 = .ok (.return_, 1) := by decide +kernel
theorem dX4_init_0 : decode cX4_init 0 = .ok (.aload_n 0, 1) := by decide +kernel
theorem dX4_init_1 : decode cX4_init 1 = .ok (.invokespecial 1, 3) := by decide +kernel
theorem dX4_init_4 : decode cX4_init 4 = .ok (.return_, 1) := by decide +kernel
theorem dX4_begin_0 : decode cX4_begin 0 = .ok (.aload_n 0, 1) := by decide +kernel
theorem dX4_begin_1 : decode cX4_begin 1 = .ok (.iconst 3, 1) := by decide +kernel
theorem dX4_begin_2 : decode cX4_begin 2 = .ok (.putfield 9, 3) := by decide +kernel
theorem dX4_begin_5 : decode cX4_begin 5 = .ok (.aload_n 0, 1) := by decide +kernel
theorem dX4_begin_6 : decode cX4_begin 6 = .ok (.iconst (-1), 1) := by decide +kernel
theorem dX4_begin_7 : decode cX4_begin 7 = .ok (.putfield 13, 3) := by decide +kernel
theorem dX4_begin_10 : decode cX4_begin 10 = .ok (.return_, 1) := by decide +kernel
theorem dX4_start_0 : decode cX4_start 0 = .ok (.aload_n 0, 1) := by decide +kernel
theorem dX4_start_1 : decode cX4_start 1 = .ok (.iload_n 1, 1) := by decide +kernel
theorem dX4_start_2 : decode cX4_start 2 = .ok (.putfield 16, 3) := by decide +kernel
theorem dX4_start_5 : decode cX4_start 5 = .ok (.aload_n 0, 1) := by decide +kernel
theorem dX4_start_6 : decode cX4_start 6 = .ok (.iload_n 2, 1) := by decide +kernel
theorem dX4_start_7 : decode cX4_start 7 = .ok (.putfield 19, 3) := by decide +kernel
theorem dX4_start_10 : decode cX4_start 10 = .ok (.aload_n 0, 1) := by decide +kernel
theorem dX4_start_11 : decode cX4_start 11 = .ok (.iload_n 3, 1) := by decide +kernel
theorem dX4_start_12 : decode cX4_start 12 = .ok (.putfield 22, 3) := by decide +kernel
theorem dX4_start_15 : decode cX4_start 15 = .ok (.aload_n 0, 1) := by decide +kernel
theorem dX4_start_16 : decode cX4_start 16 = .ok (.iload 4, 2) := by decide +kernel
theorem dX4_start_18 : decode cX4_start 18 = .ok (.putfield 25, 3) := by decide +kernel
theorem dX4_start_21 : decode cX4_start 21 = .ok (.aload_n 0, 1) := by decide +kernel
theorem dX4_start_22 : decode cX4_start 22 = .ok (.iconst 1, 1) := by decide +kernel
theorem dX4_start_23 : decode cX4_start 23 = .ok (.putfield 28, 3) := by decide +kernel
theorem dX4_start_26 : decode cX4_start 26 = .ok (.aload_n 0, 1) := by decide +kernel
theorem dX4_start_27 : decode cX4_start 27 = .ok (.iconst 0, 1) := by decide +kernel
theorem dX4_start_28 : decode cX4_start 28 = .ok (.putfield 9, 3) := by decide +kernel
theorem dX4_start_31 : decode cX4_start 31 = .ok (.aload_n 0, 1) := by decide +kernel
theorem dX4_start_32 : decode cX4_start 32 = .ok (.iconst (-1), 1) := by decide +kernel
theorem dX4_start_33 : decode cX4_start 33 = .ok (.putfield 13, 3) := by decide +kernel
theorem dX4_start_36 : decode cX4_start 36 = .ok (.return_, 1) := by decide +kernel
theorem dX4_copyFrom_0 : decode cX4_copyFrom 0 = .ok (.aload_n 0, 1) := by decide +kernel
theorem dX4_copyFrom_1 : decode cX4_copyFrom 1 = .ok (.aload_n 1, 1) := by decide +kernel
theorem dX4_copyFrom_2 : decode cX4_copyFrom 2 = .ok (.getfield 16, 3) := by decide +kernel
theorem dX4_copyFrom_5 : decode cX4_copyFrom 5 = .ok (.putfield 16, 3) := by decide +kernel
theorem dX4_copyFrom_8 : decode cX4_copyFrom 8 = .ok (.aload_n 0, 1) := by decide +kernel
theorem dX4_copyFrom_9 : decode cX4_copyFrom 9 = .ok (.aload_n 1, 1) := by decide +kernel
theorem dX4_copyFrom_10 : decode cX4_copyFrom 10 = .ok (.getfield 19, 3) := by decide +kernel
theorem dX4_copyFrom_13 : decode cX4_copyFrom 13 = .ok (.putfield 19, 3) := by decide +kernel
theorem dX4_copyFrom_16 : decode cX4_copyFrom 16 = .ok (.aload_n 0, 1) := by decide +kernel
theorem dX4_copyFrom_17 : decode cX4_copyFrom 17 = .ok (.aload_n 1, 1) := by decide +kernel
theorem dX4_copyFrom_18 : decode cX4_copyFrom 18 = .ok (.getfield 22, 3) := by decide +kernel
theorem dX4_copyFrom_21 : decode cX4_copyFrom 21 = .ok (.putfield 22, 3) := by decide +kernel
theorem dX4_copyFrom_24 : decode cX4_copyFrom 24 = .ok (.aload_n 0, 1) := by decide +kernel
theorem dX4_copyFrom_25 : decode cX4_copyFrom 25 = .ok (.aload_n 1, 1) := by decide +kernel
theorem dX4_copyFrom_26 : decode cX4_copyFrom 26 = .ok (.getfield 25, 3) := by decide +kernel
theorem dX4_copyFrom_29 : decode cX4_copyFrom 29 = .ok (.putfield 25, 3) := by decide +kernel
theorem dX4_copyFrom_32 : decode cX4_copyFrom 32 = .ok (.aload_n 0, 1) := by decide +kernel
theorem dX4_copyFrom_33 : decode cX4_copyFrom 33 = .ok (.aload_n 1, 1) := by decide +kernel
theorem dX4_copyFrom_34 : decode cX4_copyFrom 34 = .ok (.getfield 28, 3) := by decide +kernel
theorem dX4_copyFrom_37 : decode cX4_copyFrom 37 = .ok (.putfield 28, 3) := by decide +kernel
theorem dX4_copyFrom_40 : decode cX4_copyFrom 40 = .ok (.aload_n 0, 1) := by decide +kernel
theorem dX4_copyFrom_41 : decode cX4_copyFrom 41 = .ok (.aload_n 1, 1) := by decide +kernel
theorem dX4_copyFrom_42 : decode cX4_copyFrom 42 = .ok (.getfield 9, 3) := by decide +kernel
theorem dX4_copyFrom_45 : decode cX4_copyFrom 45 = .ok (.putfield 9, 3) := by decide +kernel
theorem dX4_copyFrom_48 : decode cX4_copyFrom 48 = .ok (.aload_n 0, 1) := by decide +kernel
theorem dX4_copyFrom_49 : decode cX4_copyFrom 49 = .ok (.aload_n 1, 1) := by decide +kernel
theorem dX4_copyFrom_50 : decode cX4_copyFrom 50 = .ok (.getfield 13, 3) := by decide +kernel
theorem dX4_copyFrom_53 : decode cX4_copyFrom 53 = .ok (.putfield 13, 3) := by decide +kernel
theorem dX4_copyFrom_56 : decode cX4_copyFrom 56 = .ok (.aload_n 0, 1) := by decide +kernel
theorem dX4_copyFrom_57 : decode cX4_copyFrom 57 = .ok (.aload_n 1, 1) := by decide +kernel
theorem dX4_copyFrom_58 : decode cX4_copyFrom 58 = .ok (.getfield 31, 3) := by decide +kernel
theorem dX4_copyFrom_61 : decode cX4_copyFrom 61 = .ok (.putfield 31, 3) := by decide +kernel
theorem dX4_copyFrom_64 : decode cX4_copyFrom 64 = .ok (.return_, 1) := by decide +kernel
theorem dX4_noteChange_0 : decode cX4_noteChange 0 = .ok (.aload_n 0, 1) := by decide +kernel
theorem dX4_noteChange_1 : decode cX4_noteChange 1 = .ok (.getfield 13, 3) := by decide +kernel
theorem dX4_noteChange_4 : decode cX4_noteChange 4 = .ok (.ifCond .ge 8, 3) := by decide +kernel
theorem dX4_noteChange_7 : decode cX4_noteChange 7 = .ok (.aload_n 0, 1) := by decide +kernel
theorem dX4_noteChange_8 : decode cX4_noteChange 8 = .ok (.iload_n 1, 1) := by decide +kernel
theorem dX4_noteChange_9 : decode cX4_noteChange 9 = .ok (.putfield 13, 3) := by decide +kernel
theorem dX4_noteChange_12 : decode cX4_noteChange 12 = .ok (.aload_n 0, 1) := by decide +kernel
theorem dX4_noteChange_13 : decode cX4_noteChange 13 = .ok (.iload_n 1, 1) := by decide +kernel
theorem dX4_noteChange_14 : decode cX4_noteChange 14 = .ok (.putfield 31, 3) := by decide +kernel
theorem dX4_noteChange_17 : decode cX4_noteChange 17 = .ok (.return_, 1) := by decide +kernel
theorem dX4_spreadOfChanges_0 : decode cX4_spreadOfChanges 0 = .ok (.aload_n 0, 1) := by decide +kernel
theorem dX4_spreadOfChanges_1 : decode cX4_spreadOfChanges 1 = .ok (.getfield 13, 3) := by decide +kernel
theorem dX4_spreadOfChanges_4 : decode cX4_spreadOfChanges 4 = .ok (.ifCond .ge 7, 3) := by decide +kernel
theorem dX4_spreadOfChanges_7 : decode cX4_spreadOfChanges 7 = .ok (.iconst (-1), 1) := by decide +kernel
theorem dX4_spreadOfChanges_8 : decode cX4_spreadOfChanges 8 = .ok (.goto 12, 3) := by decide +kernel
theorem dX4_spreadOfChanges_11 : decode cX4_spreadOfChanges 11 = .ok (.aload_n 0, 1) := by decide +kernel
theorem dX4_spreadOfChanges_12 : decode cX4_spreadOfChanges 12 = .ok (.getfield 31, 3) := by decide +kernel
theorem dX4_spreadOfChanges_15 : decode cX4_spreadOfChanges 15 = .ok (.aload_n 0, 1) := by decide +kernel
theorem dX4_spreadOfChanges_16 : decode cX4_spreadOfChanges 16 = .ok (.getfield 13, 3) := by decide +kernel
theorem dX4_spreadOfChanges_19 : decode cX4_spreadOfChanges 19 = .ok (.isub, 1) := by decide +kernel
theorem dX4_spreadOfChanges_20 : decode cX4_spreadOfChanges 20 = .ok (.ireturn, 1) := by decide +kernel
theorem dX4_tell_0 : decode cX4_tell 0 = .ok (.iload_n 1, 1) := by decide +kernel
theorem dX4_tell_1 : decode cX4_tell 1 = .ok (.tableswitch 60 0 4 #[35, 40, 45, 50, 55], 35) := by decide +kernel
theorem dX4_tell_36 : decode cX4_tell 36 = .ok (.aload_n 0, 1) := by decide +kernel
theorem dX4_tell_37 : decode cX4_tell 37 = .ok (.getfield 16, 3) := by decide +kernel
theorem dX4_tell_40 : decode cX4_tell 40 = .ok (.ireturn, 1) := by decide +kernel
theorem dX4_tell_41 : decode cX4_tell 41 = .ok (.aload_n 0, 1) := by decide +kernel
theorem dX4_tell_42 : decode cX4_tell 42 = .ok (.getfield 19, 3) := by decide +kernel
theorem dX4_tell_45 : decode cX4_tell 45 = .ok (.ireturn, 1) := by decide +kernel
theorem dX4_tell_46 : decode cX4_tell 46 = .ok (.aload_n 0, 1) := by decide +kernel
theorem dX4_tell_47 : decode cX4_tell 47 = .ok (.getfield 22, 3) := by decide +kernel
theorem dX4_tell_50 : decode cX4_tell 50 = .ok (.ireturn, 1) := by decide +kernel
theorem dX4_tell_51 : decode cX4_tell 51 = .ok (.aload_n 0, 1) := by decide +kernel
theorem dX4_tell_52 : decode cX4_tell 52 = .ok (.getfield 25, 3) := by decide +kernel
theorem dX4_tell_55 : decode cX4_tell 55 = .ok (.ireturn, 1) := by decide +kernel
theorem dX4_tell_56 : decode cX4_tell 56 = .ok (.aload_n 0, 1) := by decide +kernel
theorem dX4_tell_57 : decode cX4_tell 57 = .ok (.getfield 28, 3) := by decide +kernel
theorem dX4_tell_60 : decode cX4_tell 60 = .ok (.ireturn, 1) := by decide +kernel
theorem dX4_tell_61 : decode cX4_tell 61 = .ok (.aload_n 0, 1) := by decide +kernel
theorem dX4_tell_62 : decode cX4_tell 62 = .ok (.getfield 9, 3) := by decide +kernel
theorem dX4_tell_65 : decode cX4_tell 65 = .ok (.ireturn, 1) := by decide +kernel
theorem dX5_init_0 : decode cX5_init 0 = .ok (.aload_n 0, 1) := by decide +kernel
theorem dX5_init_1 : decode cX5_init 1 = .ok (.invokespecial 3, 3) := by decide +kernel
theorem dX5_init_4 : decode cX5_init 4 = .ok (.aload_n 0, 1) := by decide +kernel
theorem dX5_init_5 : decode cX5_init 5 = .ok (.sipush 600, 3) := by decide +kernel
theorem dX5_init_8 : decode cX5_init 8 = .ok (.newarray .byte, 2) := by decide +kernel
theorem dX5_init_10 : decode cX5_init 10 = .ok (.putfield 11, 3) := by decide +kernel
theorem dX5_init_13 : decode cX5_init 13 = .ok (.aload_n 0, 1) := by decide +kernel
theorem dX5_init_14 : decode cX5_init 14 = .ok (.sipush 600, 3) := by decide +kernel
theorem dX5_init_17 : decode cX5_init 17 = .ok (.newarray .int, 2) := by decide +kernel
theorem dX5_init_19 : decode cX5_init 19 = .ok (.putfield 15, 3) := by decide +kernel
theorem dX5_init_22 : decode cX5_init 22 = .ok (.return_, 1) := by decide +kernel
theorem dX5_hasRoomFor_0 : decode cX5_hasRoomFor 0 = .ok (.aload_n 0, 1) := by decide +kernel
theorem dX5_hasRoomFor_1 : decode cX5_hasRoomFor 1 = .ok (.getfield 19, 3) := by decide +kernel
theorem dX5_hasRoomFor_4 : decode cX5_hasRoomFor 4 = .ok (.iload_n 1, 1) := by decide +kernel
theorem dX5_hasRoomFor_5 : decode cX5_hasRoomFor 5 = .ok (.iadd, 1) := by decide +kernel
theorem dX5_hasRoomFor_6 : decode cX5_hasRoomFor 6 = .ok (.aload_n 0, 1) := by decide +kernel
theorem dX5_hasRoomFor_7 : decode cX5_hasRoomFor 7 = .ok (.getfield 11, 3) := by decide +kernel
theorem dX5_hasRoomFor_10 : decode cX5_hasRoomFor 10 = .ok (.arraylength, 1) := by decide +kernel
theorem dX5_hasRoomFor_11 : decode cX5_hasRoomFor 11 = .ok (.if_icmp .gt 7, 3) := by decide +kernel
theorem dX5_hasRoomFor_14 : decode cX5_hasRoomFor 14 = .ok (.iconst 1, 1) := by decide +kernel
theorem dX5_hasRoomFor_15 : decode cX5_hasRoomFor 15 = .ok (.goto 4, 3) := by decide +kernel
theorem dX5_hasRoomFor_18 : decode cX5_hasRoomFor 18 = .ok (.iconst 0, 1) := by decide +kernel
theorem dX5_hasRoomFor_19 : decode cX5_hasRoomFor 19 = .ok (.ireturn, 1) := by decide +kernel
theorem dX5_store_0 : decode cX5_store 0 = .ok (.bipush 24, 2) := by decide +kernel
theorem dX5_store_2 : decode cX5_store 2 = .ok (.istore_n 2, 1) := by decide +kernel
theorem dX5_store_3 : decode cX5_store 3 = .ok (.iload_n 2, 1) := by decide +kernel
theorem dX5_store_4 : decode cX5_store 4 = .ok (.ifCond .lt 44, 3) := by decide +kernel
theorem dX5_store_7 : decode cX5_store 7 = .ok (.aload_n 0, 1) := by decide +kernel
theorem dX5_store_8 : decode cX5_store 8 = .ok (.getfield 19, 3) := by decide +kernel
theorem dX5_store_11 : decode cX5_store 11 = .ok (.aload_n 0, 1) := by decide +kernel
theorem dX5_store_12 : decode cX5_store 12 = .ok (.getfield 11, 3) := by decide +kernel
theorem dX5_store_15 : decode cX5_store 15 = .ok (.arraylength, 1) := by decide +kernel
theorem dX5_store_16 : decode cX5_store 16 = .ok (.if_icmp .ge 32, 3) := by decide +kernel
theorem dX5_store_19 : decode cX5_store 19 = .ok (.aload_n 0, 1) := by decide +kernel
theorem dX5_store_20 : decode cX5_store 20 = .ok (.getfield 11, 3) := by decide +kernel
theorem dX5_store_23 : decode cX5_store 23 = .ok (.aload_n 0, 1) := by decide +kernel
theorem dX5_store_24 : decode cX5_store 24 = .ok (.getfield 19, 3) := by decide +kernel
theorem dX5_store_27 : decode cX5_store 27 = .ok (.iload_n 1, 1) := by decide +kernel
theorem dX5_store_28 : decode cX5_store 28 = .ok (.iload_n 2, 1) := by decide +kernel
theorem dX5_store_29 : decode cX5_store 29 = .ok (.ishr, 1) := by decide +kernel
theorem dX5_store_30 : decode cX5_store 30 = .ok (.i2b, 1) := by decide +kernel
theorem dX5_store_31 : decode cX5_store 31 = .ok (.bastore, 1) := by decide +kernel
theorem dX5_store_32 : decode cX5_store 32 = .ok (.aload_n 0, 1) := by decide +kernel
theorem dX5_store_33 : decode cX5_store 33 = .ok (.dup, 1) := by decide +kernel
theorem dX5_store_34 : decode cX5_store 34 = .ok (.getfield 19, 3) := by decide +kernel
theorem dX5_store_37 : decode cX5_store 37 = .ok (.iconst 1, 1) := by decide +kernel
theorem dX5_store_38 : decode cX5_store 38 = .ok (.iadd, 1) := by decide +kernel
theorem dX5_store_39 : decode cX5_store 39 = .ok (.putfield 19, 3) := by decide +kernel
theorem dX5_store_42 : decode cX5_store 42 = .ok (.iinc 2 (-8), 3) := by decide +kernel
theorem dX5_store_45 : decode cX5_store 45 = .ok (.goto (-42), 3) := by decide +kernel
theorem dX5_store_48 : decode cX5_store 48 = .ok (.return_, 1) := by decide +kernel
theorem dX5_read_0 : decode cX5_read 0 = .ok (.aload_n 0, 1) := by decide +kernel
theorem dX5_read_1 : decode cX5_read 1 = .ok (.iconst 0, 1) := by decide +kernel
theorem dX5_read_2 : decode cX5_read 2 = .ok (.iload_n 1, 1) := by decide +kernel
theorem dX5_read_3 : decode cX5_read 3 = .ok (.aload_n 0, 1) := by decide +kernel
theorem dX5_read_4 : decode cX5_read 4 = .ok (.getfield 11, 3) := by decide +kernel
theorem dX5_read_7 : decode cX5_read 7 = .ok (.arraylength, 1) := by decide +kernel
theorem dX5_read_8 : decode cX5_read 8 = .ok (.invokestatic 23, 3) := by decide +kernel
theorem dX5_read_11 : decode cX5_read 11 = .ok (.invokestatic 29, 3) := by decide +kernel
theorem dX5_read_14 : decode cX5_read 14 = .ok (.putfield 32, 3) := by decide +kernel
theorem dX5_read_17 : decode cX5_read 17 = .ok (.aload_n 0, 1) := by decide +kernel
theorem dX5_read_18 : decode cX5_read 18 = .ok (.iconst 0, 1) := by decide +kernel
theorem dX5_read_19 : decode cX5_read 19 = .ok (.putfield 19, 3) := by decide +kernel
theorem dX5_read_22 : decode cX5_read 22 = .ok (.aload_n 0, 1) := by decide +kernel
theorem dX5_read_23 : decode cX5_read 23 = .ok (.iconst 0, 1) := by decide +kernel
theorem dX5_read_24 : decode cX5_read 24 = .ok (.putfield 35, 3) := by decide +kernel
theorem dX5_read_27 : decode cX5_read 27 = .ok (.aload_n 0, 1) := by decide +kernel
theorem dX5_read_28 : decode cX5_read 28 = .ok (.iconst 0, 1) := by decide +kernel
theorem dX5_read_29 : decode cX5_read 29 = .ok (.putfield 38, 3) := by decide +kernel
theorem dX5_read_32 : decode cX5_read 32 = .ok (.aload_n 0, 1) := by decide +kernel
theorem dX5_read_33 : decode cX5_read 33 = .ok (.iconst (-1), 1) := by decide +kernel
theorem dX5_read_34 : decode cX5_read 34 = .ok (.putfield 41, 3) := by decide +kernel
theorem dX5_read_37 : decode cX5_read 37 = .ok (.aload_n 0, 1) := by decide +kernel
theorem dX5_read_38 : decode cX5_read 38 = .ok (.invokevirtual 44, 3) := by decide +kernel
theorem dX5_read_41 : decode cX5_read 41 = .ok (.aload_n 0, 1) := by decide +kernel
theorem dX5_read_42 : decode cX5_read 42 = .ok (.ldc 47, 2) := by decide +kernel
theorem dX5_read_44 : decode cX5_read 44 = .ok (.invokevirtual 49, 3) := by decide +kernel
theorem dX5_read_47 : decode cX5_read 47 = .ok (.ifCond .eq 13, 3) := by decide +kernel
theorem dX5_read_50 : decode cX5_read 50 = .ok (.aload_n 0, 1) := by decide +kernel
theorem dX5_read_51 : decode cX5_read 51 = .ok (.iconst 1, 1) := by decide +kernel
theorem dX5_read_52 : decode cX5_read 52 = .ok (.bipush 8, 2) := by decide +kernel
theorem dX5_read_54 : decode cX5_read 54 = .ok (.invokevirtual 55, 3) := by decide +kernel
theorem dX5_read_57 : decode cX5_read 57 = .ok (.ifCond .ne 5, 3) := by decide +kernel
theorem dX5_read_60 : decode cX5_read 60 = .ok (.aconst_null, 1) := by decide +kernel
theorem dX5_read_61 : decode cX5_read 61 = .ok (.areturn, 1) := by decide +kernel
theorem dX5_read_62 : decode cX5_read 62 = .ok (.aload_n 0, 1) := by decide +kernel
theorem dX5_read_63 : decode cX5_read 63 = .ok (.new 53, 3) := by decide +kernel
theorem dX5_read_66 : decode cX5_read 66 = .ok (.dup, 1) := by decide +kernel
theorem dX5_read_67 : decode cX5_read 67 = .ok (.aload_n 0, 1) := by decide +kernel
theorem dX5_read_68 : decode cX5_read 68 = .ok (.getfield 59, 3) := by decide +kernel
theorem dX5_read_71 : decode cX5_read 71 = .ok (.invokespecial 62, 3) := by decide +kernel
theorem dX5_read_74 : decode cX5_read 74 = .ok (.putfield 65, 3) := by decide +kernel
theorem dX5_read_77 : decode cX5_read 77 = .ok (.aload_n 0, 1) := by decide +kernel
theorem dX5_read_78 : decode cX5_read 78 = .ok (.bipush 59, 2) := by decide +kernel
theorem dX5_read_80 : decode cX5_read 80 = .ok (.invokevirtual 69, 3) := by decide +kernel
theorem dX5_read_83 : decode cX5_read 83 = .ok (.ifCond .ne 5, 3) := by decide +kernel
theorem dX5_read_86 : decode cX5_read 86 = .ok (.aconst_null, 1) := by decide +kernel
theorem dX5_read_87 : decode cX5_read 87 = .ok (.areturn, 1) := by decide +kernel
theorem dX5_read_88 : decode cX5_read 88 = .ok (.iconst 0, 1) := by decide +kernel
theorem dX5_read_89 : decode cX5_read 89 = .ok (.istore_n 2, 1) := by decide +kernel
theorem dX5_read_90 : decode cX5_read 90 = .ok (.iload_n 2, 1) := by decide +kernel
theorem dX5_read_91 : decode cX5_read 91 = .ok (.sipush 600, 3) := by decide +kernel
theorem dX5_read_94 : decode cX5_read 94 = .ok (.if_icmp .ge 34, 3) := by decide +kernel
theorem dX5_read_97 : decode cX5_read 97 = .ok (.aload_n 0, 1) := by decide +kernel
theorem dX5_read_98 : decode cX5_read 98 = .ok (.getfield 73, 3) := by decide +kernel
theorem dX5_read_101 : decode cX5_read 101 = .ok (.ifCond .eq 27, 3) := by decide +kernel
theorem dX5_read_104 : decode cX5_read 104 = .ok (.aload_n 0, 1) := by decide +kernel
theorem dX5_read_105 : decode cX5_read 105 = .ok (.invokevirtual 76, 3) := by decide +kernel
theorem dX5_read_108 : decode cX5_read 108 = .ok (.ifCond .eq 12, 3) := by decide +kernel
theorem dX5_read_111 : decode cX5_read 111 = .ok (.aload_n 0, 1) := by decide +kernel
theorem dX5_read_112 : decode cX5_read 112 = .ok (.bipush 59, 2) := by decide +kernel
theorem dX5_read_114 : decode cX5_read 114 = .ok (.invokevirtual 69, 3) := by decide +kernel
theorem dX5_read_117 : decode cX5_read 117 = .ok (.ifCond .ne 5, 3) := by decide +kernel
theorem dX5_read_120 : decode cX5_read 120 = .ok (.aconst_null, 1) := by decide +kernel
theorem dX5_read_121 : decode cX5_read 121 = .ok (.areturn, 1) := by decide +kernel
theorem dX5_read_122 : decode cX5_read 122 = .ok (.iinc 2 1, 3) := by decide +kernel
theorem dX5_read_125 : decode cX5_read 125 = .ok (.goto (-35), 3) := by decide +kernel
theorem dX5_read_128 : decode cX5_read 128 = .ok (.aload_n 0, 1) := by decide +kernel
theorem dX5_read_129 : decode cX5_read 129 = .ok (.getfield 65, 3) := by decide +kernel
theorem dX5_read_132 : decode cX5_read 132 = .ok (.invokevirtual 80, 3) := by decide +kernel
theorem dX5_read_135 : decode cX5_read 135 = .ok (.aload_n 0, 1) := by decide +kernel
theorem dX5_read_136 : decode cX5_read 136 = .ok (.getfield 65, 3) := by decide +kernel
theorem dX5_read_139 : decode cX5_read 139 = .ok (.areturn, 1) := by decide +kernel
theorem dX5_readStatement_0 : decode cX5_readStatement 0 = .ok (.aload_n 0, 1) := by decide +kernel
theorem dX5_readStatement_1 : decode cX5_readStatement 1 = .ok (.ldc 83, 2) := by decide +kernel
theorem dX5_readStatement_3 : decode cX5_readStatement 3 = .ok (.invokevirtual 85, 3) := by decide +kernel
theorem dX5_readStatement_6 : decode cX5_readStatement 6 = .ok (.ifCond .eq 8, 3) := by decide +kernel
theorem dX5_readStatement_9 : decode cX5_readStatement 9 = .ok (.aload_n 0, 1) := by decide +kernel
theorem dX5_readStatement_10 : decode cX5_readStatement 10 = .ok (.invokevirtual 88, 3) := by decide +kernel
theorem dX5_readStatement_13 : decode cX5_readStatement 13 = .ok (.ireturn, 1) := by decide +kernel
theorem dX5_readStatement_14 : decode cX5_readStatement 14 = .ok (.aload_n 0, 1) := by decide +kernel
theorem dX5_readStatement_15 : decode cX5_readStatement 15 = .ok (.ldc 91, 2) := by decide +kernel
theorem dX5_readStatement_17 : decode cX5_readStatement 17 = .ok (.invokevirtual 85, 3) := by decide +kernel
theorem dX5_readStatement_20 : decode cX5_readStatement 20 = .ok (.ifCond .eq 8, 3) := by decide +kernel
theorem dX5_readStatement_23 : decode cX5_readStatement 23 = .ok (.aload_n 0, 1) := by decide +kernel
theorem dX5_readStatement_24 : decode cX5_readStatement 24 = .ok (.invokevirtual 93, 3) := by decide +kernel
theorem dX5_readStatement_27 : decode cX5_readStatement 27 = .ok (.ireturn, 1) := by decide +kernel
theorem dX5_readStatement_28 : decode cX5_readStatement 28 = .ok (.aload_n 0, 1) := by decide +kernel
theorem dX5_readStatement_29 : decode cX5_readStatement 29 = .ok (.ldc 96, 2) := by decide +kernel
theorem dX5_readStatement_31 : decode cX5_readStatement 31 = .ok (.invokevirtual 85, 3) := by decide +kernel
theorem dX5_readStatement_34 : decode cX5_readStatement 34 = .ok (.ifCond .eq 18, 3) := by decide +kernel
theorem dX5_readStatement_37 : decode cX5_readStatement 37 = .ok (.aload_n 0, 1) := by decide +kernel
theorem dX5_readStatement_38 : decode cX5_readStatement 38 = .ok (.getfield 65, 3) := by decide +kernel
theorem dX5_readStatement_41 : decode cX5_readStatement 41 = .ok (.getfield 98, 3) := by decide +kernel
theorem dX5_readStatement_44 : decode cX5_readStatement 44 = .ok (.ifCond .ne 8, 3) := by decide +kernel
theorem dX5_readStatement_47 : decode cX5_readStatement 47 = .ok (.aload_n 0, 1) := by decide +kernel
theorem dX5_readStatement_48 : decode cX5_readStatement 48 = .ok (.invokevirtual 100, 3) := by decide +kernel
theorem dX5_readStatement_51 : decode cX5_readStatement 51 = .ok (.ireturn, 1) := by decide +kernel
theorem dX5_readStatement_52 : decode cX5_readStatement 52 = .ok (.aload_n 0, 1) := by decide +kernel
theorem dX5_readStatement_53 : decode cX5_readStatement 53 = .ok (.ldc 103, 2) := by decide +kernel
theorem dX5_readStatement_55 : decode cX5_readStatement 55 = .ok (.invokevirtual 85, 3) := by decide +kernel
theorem dX5_readStatement_58 : decode cX5_readStatement 58 = .ok (.ifCond .eq 18, 3) := by decide +kernel
theorem dX5_readStatement_61 : decode cX5_readStatement 61 = .ok (.aload_n 0, 1) := by decide +kernel
theorem dX5_readStatement_62 : decode cX5_readStatement 62 = .ok (.getfield 65, 3) := by decide +kernel
theorem dX5_readStatement_65 : decode cX5_readStatement 65 = .ok (.getfield 105, 3) := by decide +kernel
theorem dX5_readStatement_68 : decode cX5_readStatement 68 = .ok (.ifCond .ne 8, 3) := by decide +kernel
theorem dX5_readStatement_71 : decode cX5_readStatement 71 = .ok (.aload_n 0, 1) := by decide +kernel
theorem dX5_readStatement_72 : decode cX5_readStatement 72 = .ok (.invokevirtual 107, 3) := by decide +kernel
theorem dX5_readStatement_75 : decode cX5_readStatement 75 = .ok (.ireturn, 1) := by decide +kernel
theorem dX5_readStatement_76 : decode cX5_readStatement 76 = .ok (.aload_n 0, 1) := by decide +kernel
theorem dX5_readStatement_77 : decode cX5_readStatement 77 = .ok (.ldc 110, 2) := by decide +kernel
theorem dX5_readStatement_79 : decode cX5_readStatement 79 = .ok (.invokevirtual 85, 3) := by decide +kernel
theorem dX5_readStatement_82 : decode cX5_readStatement 82 = .ok (.ifCond .eq 51, 3) := by decide +kernel
theorem dX5_readStatement_85 : decode cX5_readStatement 85 = .ok (.aload_n 0, 1) := by decide +kernel
theorem dX5_readStatement_86 : decode cX5_readStatement 86 = .ok (.getfield 65, 3) := by decide +kernel
theorem dX5_readStatement_89 : decode cX5_readStatement 89 = .ok (.getfield 112, 3) := by decide +kernel
theorem dX5_readStatement_92 : decode cX5_readStatement 92 = .ok (.ifnonnull 41, 3) := by decide +kernel
theorem dX5_readStatement_95 : decode cX5_readStatement 95 = .ok (.aload_n 0, 1) := by decide +kernel
theorem dX5_readStatement_96 : decode cX5_readStatement 96 = .ok (.invokevirtual 44, 3) := by decide +kernel
theorem dX5_readStatement_99 : decode cX5_readStatement 99 = .ok (.aload_n 0, 1) := by decide +kernel
theorem dX5_readStatement_100 : decode cX5_readStatement 100 = .ok (.iconst 0, 1) := by decide +kernel
theorem dX5_readStatement_101 : decode cX5_readStatement 101 = .ok (.invokevirtual 115, 3) := by decide +kernel
theorem dX5_readStatement_104 : decode cX5_readStatement 104 = .ok (.ifCond .ne 5, 3) := by decide +kernel
theorem dX5_readStatement_107 : decode cX5_readStatement 107 = .ok (.iconst 0, 1) := by decide +kernel
theorem dX5_readStatement_108 : decode cX5_readStatement 108 = .ok (.ireturn, 1) := by decide +kernel
theorem dX5_readStatement_109 : decode cX5_readStatement 109 = .ok (.aload_n 0, 1) := by decide +kernel
theorem dX5_readStatement_110 : decode cX5_readStatement 110 = .ok (.getfield 65, 3) := by decide +kernel
theorem dX5_readStatement_113 : decode cX5_readStatement 113 = .ok (.new 119, 3) := by decide +kernel
theorem dX5_readStatement_116 : decode cX5_readStatement 116 = .ok (.dup, 1) := by decide +kernel
theorem dX5_readStatement_117 : decode cX5_readStatement 117 = .ok (.aload_n 0, 1) := by decide +kernel
theorem dX5_readStatement_118 : decode cX5_readStatement 118 = .ok (.getfield 15, 3) := by decide +kernel
theorem dX5_readStatement_121 : decode cX5_readStatement 121 = .ok (.aload_n 0, 1) := by decide +kernel
theorem dX5_readStatement_122 : decode cX5_readStatement 122 = .ok (.getfield 38, 3) := by decide +kernel
theorem dX5_readStatement_125 : decode cX5_readStatement 125 = .ok (.invokespecial 121, 3) := by decide +kernel
theorem dX5_readStatement_128 : decode cX5_readStatement 128 = .ok (.putfield 112, 3) := by decide +kernel
theorem dX5_readStatement_131 : decode cX5_readStatement 131 = .ok (.iconst 1, 1) := by decide +kernel
theorem dX5_readStatement_132 : decode cX5_readStatement 132 = .ok (.ireturn, 1) := by decide +kernel
theorem dX5_readStatement_133 : decode cX5_readStatement 133 = .ok (.aload_n 0, 1) := by decide +kernel
theorem dX5_readStatement_134 : decode cX5_readStatement 134 = .ok (.bipush (-2), 2) := by decide +kernel
theorem dX5_readStatement_136 : decode cX5_readStatement 136 = .ok (.aload_n 0, 1) := by decide +kernel
theorem dX5_readStatement_137 : decode cX5_readStatement 137 = .ok (.getfield 124, 3) := by decide +kernel
theorem dX5_readStatement_140 : decode cX5_readStatement 140 = .ok (.invokevirtual 127, 3) := by decide +kernel
theorem dX5_readStatement_143 : decode cX5_readStatement 143 = .ok (.ireturn, 1) := by decide +kernel
theorem dX5_readNeed_0 : decode cX5_readNeed 0 = .ok (.aload_n 0, 1) := by decide +kernel
theorem dX5_readNeed_1 : decode cX5_readNeed 1 = .ok (.invokevirtual 44, 3) := by decide +kernel
theorem dX5_readNeed_4 : decode cX5_readNeed 4 = .ok (.aload_n 0, 1) := by decide +kernel
theorem dX5_readNeed_5 : decode cX5_readNeed 5 = .ok (.iconst 1, 1) := by decide +kernel
theorem dX5_readNeed_6 : decode cX5_readNeed 6 = .ok (.aload_n 0, 1) := by decide +kernel
theorem dX5_readNeed_7 : decode cX5_readNeed 7 = .ok (.getfield 65, 3) := by decide +kernel
theorem dX5_readNeed_10 : decode cX5_readNeed 10 = .ok (.getfield 130, 3) := by decide +kernel
theorem dX5_readNeed_13 : decode cX5_readNeed 13 = .ok (.invokevirtual 55, 3) := by decide +kernel
theorem dX5_readNeed_16 : decode cX5_readNeed 16 = .ok (.ifCond .ne 5, 3) := by decide +kernel
theorem dX5_readNeed_19 : decode cX5_readNeed 19 = .ok (.iconst 0, 1) := by decide +kernel
theorem dX5_readNeed_20 : decode cX5_readNeed 20 = .ok (.ireturn, 1) := by decide +kernel
theorem dX5_readNeed_21 : decode cX5_readNeed 21 = .ok (.aload_n 0, 1) := by decide +kernel
theorem dX5_readNeed_22 : decode cX5_readNeed 22 = .ok (.getfield 65, 3) := by decide +kernel
theorem dX5_readNeed_25 : decode cX5_readNeed 25 = .ok (.aload_n 0, 1) := by decide +kernel
theorem dX5_readNeed_26 : decode cX5_readNeed 26 = .ok (.getfield 59, 3) := by decide +kernel
theorem dX5_readNeed_29 : decode cX5_readNeed 29 = .ok (.putfield 98, 3) := by decide +kernel
theorem dX5_readNeed_32 : decode cX5_readNeed 32 = .ok (.iconst 1, 1) := by decide +kernel
theorem dX5_readNeed_33 : decode cX5_readNeed 33 = .ok (.ireturn, 1) := by decide +kernel
theorem dX5_readPatience_0 : decode cX5_readPatience 0 = .ok (.aload_n 0, 1) := by decide +kernel
theorem dX5_readPatience_1 : decode cX5_readPatience 1 = .ok (.invokevirtual 44, 3) := by decide +kernel
theorem dX5_readPatience_4 : decode cX5_readPatience 4 = .ok (.aload_n 0, 1) := by decide +kernel
theorem dX5_readPatience_5 : decode cX5_readPatience 5 = .ok (.iconst 1, 1) := by decide +kernel
theorem dX5_readPatience_6 : decode cX5_readPatience 6 = .ok (.sipush 200, 3) := by decide +kernel
theorem dX5_readPatience_9 : decode cX5_readPatience 9 = .ok (.invokevirtual 55, 3) := by decide +kernel
theorem dX5_readPatience_12 : decode cX5_readPatience 12 = .ok (.ifCond .ne 5, 3) := by decide +kernel
theorem dX5_readPatience_15 : decode cX5_readPatience 15 = .ok (.iconst 0, 1) := by decide +kernel
theorem dX5_readPatience_16 : decode cX5_readPatience 16 = .ok (.ireturn, 1) := by decide +kernel
theorem dX5_readPatience_17 : decode cX5_readPatience 17 = .ok (.aload_n 0, 1) := by decide +kernel
theorem dX5_readPatience_18 : decode cX5_readPatience 18 = .ok (.getfield 65, 3) := by decide +kernel
theorem dX5_readPatience_21 : decode cX5_readPatience 21 = .ok (.aload_n 0, 1) := by decide +kernel
theorem dX5_readPatience_22 : decode cX5_readPatience 22 = .ok (.getfield 59, 3) := by decide +kernel
theorem dX5_readPatience_25 : decode cX5_readPatience 25 = .ok (.putfield 105, 3) := by decide +kernel
theorem dX5_readPatience_28 : decode cX5_readPatience 28 = .ok (.iconst 1, 1) := by decide +kernel
theorem dX5_readPatience_29 : decode cX5_readPatience 29 = .ok (.ireturn, 1) := by decide +kernel
theorem dX5_readClock_0 : decode cX5_readClock 0 = .ok (.aload_n 0, 1) := by decide +kernel
theorem dX5_readClock_1 : decode cX5_readClock 1 = .ok (.invokevirtual 44, 3) := by decide +kernel
theorem dX5_readClock_4 : decode cX5_readClock 4 = .ok (.aload_n 0, 1) := by decide +kernel
theorem dX5_readClock_5 : decode cX5_readClock 5 = .ok (.iconst 0, 1) := by decide +kernel
theorem dX5_readClock_6 : decode cX5_readClock 6 = .ok (.aload_n 0, 1) := by decide +kernel
theorem dX5_readClock_7 : decode cX5_readClock 7 = .ok (.getfield 65, 3) := by decide +kernel
theorem dX5_readClock_10 : decode cX5_readClock 10 = .ok (.getfield 130, 3) := by decide +kernel
theorem dX5_readClock_13 : decode cX5_readClock 13 = .ok (.iconst 1, 1) := by decide +kernel
theorem dX5_readClock_14 : decode cX5_readClock 14 = .ok (.isub, 1) := by decide +kernel
theorem dX5_readClock_15 : decode cX5_readClock 15 = .ok (.invokevirtual 55, 3) := by decide +kernel
theorem dX5_readClock_18 : decode cX5_readClock 18 = .ok (.ifCond .ne 5, 3) := by decide +kernel
theorem dX5_readClock_21 : decode cX5_readClock 21 = .ok (.iconst 0, 1) := by decide +kernel
theorem dX5_readClock_22 : decode cX5_readClock 22 = .ok (.ireturn, 1) := by decide +kernel
theorem dX5_readClock_23 : decode cX5_readClock 23 = .ok (.aload_n 0, 1) := by decide +kernel
theorem dX5_readClock_24 : decode cX5_readClock 24 = .ok (.getfield 59, 3) := by decide +kernel
theorem dX5_readClock_27 : decode cX5_readClock 27 = .ok (.istore_n 1, 1) := by decide +kernel
theorem dX5_readClock_28 : decode cX5_readClock 28 = .ok (.aload_n 0, 1) := by decide +kernel
theorem dX5_readClock_29 : decode cX5_readClock 29 = .ok (.getfield 65, 3) := by decide +kernel
theorem dX5_readClock_32 : decode cX5_readClock 32 = .ok (.iload_n 1, 1) := by decide +kernel
theorem dX5_readClock_33 : decode cX5_readClock 33 = .ok (.invokevirtual 132, 3) := by decide +kernel
theorem dX5_readClock_36 : decode cX5_readClock 36 = .ok (.ifCond .eq 14, 3) := by decide +kernel
theorem dX5_readClock_39 : decode cX5_readClock 39 = .ok (.aload_n 0, 1) := by decide +kernel
theorem dX5_readClock_40 : decode cX5_readClock 40 = .ok (.bipush (-4), 2) := by decide +kernel
theorem dX5_readClock_42 : decode cX5_readClock 42 = .ok (.aload_n 0, 1) := by decide +kernel
theorem dX5_readClock_43 : decode cX5_readClock 43 = .ok (.getfield 135, 3) := by decide +kernel
theorem dX5_readClock_46 : decode cX5_readClock 46 = .ok (.invokevirtual 127, 3) := by decide +kernel
theorem dX5_readClock_49 : decode cX5_readClock 49 = .ok (.ireturn, 1) := by decide +kernel
theorem dX5_readClock_50 : decode cX5_readClock 50 = .ok (.aload_n 0, 1) := by decide +kernel
theorem dX5_readClock_51 : decode cX5_readClock 51 = .ok (.sipush 999, 3) := by decide +kernel
theorem dX5_readClock_54 : decode cX5_readClock 54 = .ok (.invokevirtual 138, 3) := by decide +kernel
theorem dX5_readClock_57 : decode cX5_readClock 57 = .ok (.ifCond .ne 5, 3) := by decide +kernel
theorem dX5_readClock_60 : decode cX5_readClock 60 = .ok (.iconst 0, 1) := by decide +kernel
theorem dX5_readClock_61 : decode cX5_readClock 61 = .ok (.ireturn, 1) := by decide +kernel
theorem dX5_readClock_62 : decode cX5_readClock 62 = .ok (.aload_n 0, 1) := by decide +kernel
theorem dX5_readClock_63 : decode cX5_readClock 63 = .ok (.getfield 59, 3) := by decide +kernel
theorem dX5_readClock_66 : decode cX5_readClock 66 = .ok (.istore_n 2, 1) := by decide +kernel
theorem dX5_readClock_67 : decode cX5_readClock 67 = .ok (.aload_n 0, 1) := by decide +kernel
theorem dX5_readClock_68 : decode cX5_readClock 68 = .ok (.bipush 50, 2) := by decide +kernel
theorem dX5_readClock_70 : decode cX5_readClock 70 = .ok (.invokevirtual 138, 3) := by decide +kernel
theorem dX5_readClock_73 : decode cX5_readClock 73 = .ok (.ifCond .ne 5, 3) := by decide +kernel
theorem dX5_readClock_76 : decode cX5_readClock 76 = .ok (.iconst 0, 1) := by decide +kernel
theorem dX5_readClock_77 : decode cX5_readClock 77 = .ok (.ireturn, 1) := by decide +kernel
theorem dX5_readClock_78 : decode cX5_readClock 78 = .ok (.aload_n 0, 1) := by decide +kernel
theorem dX5_readClock_79 : decode cX5_readClock 79 = .ok (.getfield 65, 3) := by decide +kernel
theorem dX5_readClock_82 : decode cX5_readClock 82 = .ok (.iload_n 1, 1) := by decide +kernel
theorem dX5_readClock_83 : decode cX5_readClock 83 = .ok (.iload_n 2, 1) := by decide +kernel
theorem dX5_readClock_84 : decode cX5_readClock 84 = .ok (.aload_n 0, 1) := by decide +kernel
theorem dX5_readClock_85 : decode cX5_readClock 85 = .ok (.getfield 59, 3) := by decide +kernel
theorem dX5_readClock_88 : decode cX5_readClock 88 = .ok (.invokevirtual 141, 3) := by decide +kernel
theorem dX5_readClock_91 : decode cX5_readClock 91 = .ok (.iconst 1, 1) := by decide +kernel
theorem dX5_readClock_92 : decode cX5_readClock 92 = .ok (.ireturn, 1) := by decide +kernel
theorem dX5_readLink_0 : decode cX5_readLink 0 = .ok (.aload_n 0, 1) := by decide +kernel
theorem dX5_readLink_1 : decode cX5_readLink 1 = .ok (.invokevirtual 44, 3) := by decide +kernel
theorem dX5_readLink_4 : decode cX5_readLink 4 = .ok (.aload_n 0, 1) := by decide +kernel
theorem dX5_readLink_5 : decode cX5_readLink 5 = .ok (.iconst 0, 1) := by decide +kernel
theorem dX5_readLink_6 : decode cX5_readLink 6 = .ok (.aload_n 0, 1) := by decide +kernel
theorem dX5_readLink_7 : decode cX5_readLink 7 = .ok (.getfield 65, 3) := by decide +kernel
theorem dX5_readLink_10 : decode cX5_readLink 10 = .ok (.getfield 130, 3) := by decide +kernel
theorem dX5_readLink_13 : decode cX5_readLink 13 = .ok (.iconst 1, 1) := by decide +kernel
theorem dX5_readLink_14 : decode cX5_readLink 14 = .ok (.isub, 1) := by decide +kernel
theorem dX5_readLink_15 : decode cX5_readLink 15 = .ok (.invokevirtual 55, 3) := by decide +kernel
theorem dX5_readLink_18 : decode cX5_readLink 18 = .ok (.ifCond .ne 5, 3) := by decide +kernel
theorem dX5_readLink_21 : decode cX5_readLink 21 = .ok (.iconst 0, 1) := by decide +kernel
theorem dX5_readLink_22 : decode cX5_readLink 22 = .ok (.ireturn, 1) := by decide +kernel
theorem dX5_readLink_23 : decode cX5_readLink 23 = .ok (.aload_n 0, 1) := by decide +kernel
theorem dX5_readLink_24 : decode cX5_readLink 24 = .ok (.getfield 59, 3) := by decide +kernel
theorem dX5_readLink_27 : decode cX5_readLink 27 = .ok (.istore_n 1, 1) := by decide +kernel
theorem dX5_readLink_28 : decode cX5_readLink 28 = .ok (.aload_n 0, 1) := by decide +kernel
theorem dX5_readLink_29 : decode cX5_readLink 29 = .ok (.iconst 0, 1) := by decide +kernel
theorem dX5_readLink_30 : decode cX5_readLink 30 = .ok (.aload_n 0, 1) := by decide +kernel
theorem dX5_readLink_31 : decode cX5_readLink 31 = .ok (.getfield 65, 3) := by decide +kernel
theorem dX5_readLink_34 : decode cX5_readLink 34 = .ok (.getfield 130, 3) := by decide +kernel
theorem dX5_readLink_37 : decode cX5_readLink 37 = .ok (.iconst 1, 1) := by decide +kernel
theorem dX5_readLink_38 : decode cX5_readLink 38 = .ok (.isub, 1) := by decide +kernel
theorem dX5_readLink_39 : decode cX5_readLink 39 = .ok (.invokevirtual 55, 3) := by decide +kernel
theorem dX5_readLink_42 : decode cX5_readLink 42 = .ok (.ifCond .ne 5, 3) := by decide +kernel
theorem dX5_readLink_45 : decode cX5_readLink 45 = .ok (.iconst 0, 1) := by decide +kernel
theorem dX5_readLink_46 : decode cX5_readLink 46 = .ok (.ireturn, 1) := by decide +kernel
theorem dX5_readLink_47 : decode cX5_readLink 47 = .ok (.aload_n 0, 1) := by decide +kernel
theorem dX5_readLink_48 : decode cX5_readLink 48 = .ok (.getfield 59, 3) := by decide +kernel
theorem dX5_readLink_51 : decode cX5_readLink 51 = .ok (.istore_n 2, 1) := by decide +kernel
theorem dX5_readLink_52 : decode cX5_readLink 52 = .ok (.iload_n 1, 1) := by decide +kernel
theorem dX5_readLink_53 : decode cX5_readLink 53 = .ok (.iload_n 2, 1) := by decide +kernel
theorem dX5_readLink_54 : decode cX5_readLink 54 = .ok (.if_icmp .eq 15, 3) := by decide +kernel
theorem dX5_readLink_57 : decode cX5_readLink 57 = .ok (.aload_n 0, 1) := by decide +kernel
theorem dX5_readLink_58 : decode cX5_readLink 58 = .ok (.getfield 65, 3) := by decide +kernel
theorem dX5_readLink_61 : decode cX5_readLink 61 = .ok (.iload_n 1, 1) := by decide +kernel
theorem dX5_readLink_62 : decode cX5_readLink 62 = .ok (.iload_n 2, 1) := by decide +kernel
theorem dX5_readLink_63 : decode cX5_readLink 63 = .ok (.invokevirtual 145, 3) := by decide +kernel
theorem dX5_readLink_66 : decode cX5_readLink 66 = .ok (.ifCond .eq 14, 3) := by decide +kernel
theorem dX5_readLink_69 : decode cX5_readLink 69 = .ok (.aload_n 0, 1) := by decide +kernel
theorem dX5_readLink_70 : decode cX5_readLink 70 = .ok (.bipush (-4), 2) := by decide +kernel
theorem dX5_readLink_72 : decode cX5_readLink 72 = .ok (.aload_n 0, 1) := by decide +kernel
theorem dX5_readLink_73 : decode cX5_readLink 73 = .ok (.getfield 135, 3) := by decide +kernel
theorem dX5_readLink_76 : decode cX5_readLink 76 = .ok (.invokevirtual 127, 3) := by decide +kernel
theorem dX5_readLink_79 : decode cX5_readLink 79 = .ok (.ireturn, 1) := by decide +kernel
theorem dX5_readLink_80 : decode cX5_readLink 80 = .ok (.aload_n 0, 1) := by decide +kernel
theorem dX5_readLink_81 : decode cX5_readLink 81 = .ok (.iconst 1, 1) := by decide +kernel
theorem dX5_readLink_82 : decode cX5_readLink 82 = .ok (.bipush 9, 2) := by decide +kernel
theorem dX5_readLink_84 : decode cX5_readLink 84 = .ok (.invokevirtual 55, 3) := by decide +kernel
theorem dX5_readLink_87 : decode cX5_readLink 87 = .ok (.ifCond .ne 5, 3) := by decide +kernel
theorem dX5_readLink_90 : decode cX5_readLink 90 = .ok (.iconst 0, 1) := by decide +kernel
theorem dX5_readLink_91 : decode cX5_readLink 91 = .ok (.ireturn, 1) := by decide +kernel
theorem dX5_readLink_92 : decode cX5_readLink 92 = .ok (.aload_n 0, 1) := by decide +kernel
theorem dX5_readLink_93 : decode cX5_readLink 93 = .ok (.getfield 59, 3) := by decide +kernel
theorem dX5_readLink_96 : decode cX5_readLink 96 = .ok (.istore_n 3, 1) := by decide +kernel
theorem dX5_readLink_97 : decode cX5_readLink 97 = .ok (.aload_n 0, 1) := by decide +kernel
theorem dX5_readLink_98 : decode cX5_readLink 98 = .ok (.iconst 1, 1) := by decide +kernel
theorem dX5_readLink_99 : decode cX5_readLink 99 = .ok (.bipush 9, 2) := by decide +kernel
theorem dX5_readLink_101 : decode cX5_readLink 101 = .ok (.invokevirtual 55, 3) := by decide +kernel
theorem dX5_readLink_104 : decode cX5_readLink 104 = .ok (.ifCond .ne 5, 3) := by decide +kernel
theorem dX5_readLink_107 : decode cX5_readLink 107 = .ok (.iconst 0, 1) := by decide +kernel
theorem dX5_readLink_108 : decode cX5_readLink 108 = .ok (.ireturn, 1) := by decide +kernel
theorem dX5_readLink_109 : decode cX5_readLink 109 = .ok (.aload_n 0, 1) := by decide +kernel
theorem dX5_readLink_110 : decode cX5_readLink 110 = .ok (.getfield 65, 3) := by decide +kernel
theorem dX5_readLink_113 : decode cX5_readLink 113 = .ok (.iload_n 1, 1) := by decide +kernel
theorem dX5_readLink_114 : decode cX5_readLink 114 = .ok (.iload_n 2, 1) := by decide +kernel
theorem dX5_readLink_115 : decode cX5_readLink 115 = .ok (.iload_n 3, 1) := by decide +kernel
theorem dX5_readLink_116 : decode cX5_readLink 116 = .ok (.invokevirtual 150, 3) := by decide +kernel
theorem dX5_readLink_119 : decode cX5_readLink 119 = .ok (.aload_n 0, 1) := by decide +kernel
theorem dX5_readLink_120 : decode cX5_readLink 120 = .ok (.getfield 65, 3) := by decide +kernel
theorem dX5_readLink_123 : decode cX5_readLink 123 = .ok (.iload_n 2, 1) := by decide +kernel
theorem dX5_readLink_124 : decode cX5_readLink 124 = .ok (.iload_n 1, 1) := by decide +kernel
theorem dX5_readLink_125 : decode cX5_readLink 125 = .ok (.aload_n 0, 1) := by decide +kernel
theorem dX5_readLink_126 : decode cX5_readLink 126 = .ok (.getfield 59, 3) := by decide +kernel
theorem dX5_readLink_129 : decode cX5_readLink 129 = .ok (.invokevirtual 150, 3) := by decide +kernel
theorem dX5_readLink_132 : decode cX5_readLink 132 = .ok (.iconst 1, 1) := by decide +kernel
theorem dX5_readLink_133 : decode cX5_readLink 133 = .ok (.ireturn, 1) := by decide +kernel
theorem dX5_readSum_0 : decode cX5_readSum 0 = .ok (.aload_n 0, 1) := by decide +kernel
theorem dX5_readSum_1 : decode cX5_readSum 1 = .ok (.iload_n 1, 1) := by decide +kernel
theorem dX5_readSum_2 : decode cX5_readSum 2 = .ok (.invokevirtual 153, 3) := by decide +kernel
theorem dX5_readSum_5 : decode cX5_readSum 5 = .ok (.ifCond .ne 5, 3) := by decide +kernel
theorem dX5_readSum_8 : decode cX5_readSum 8 = .ok (.iconst 0, 1) := by decide +kernel
theorem dX5_readSum_9 : decode cX5_readSum 9 = .ok (.ireturn, 1) := by decide +kernel
theorem dX5_readSum_10 : decode cX5_readSum 10 = .ok (.iconst 0, 1) := by decide +kernel
theorem dX5_readSum_11 : decode cX5_readSum 11 = .ok (.istore_n 2, 1) := by decide +kernel
theorem dX5_readSum_12 : decode cX5_readSum 12 = .ok (.iload_n 2, 1) := by decide +kernel
theorem dX5_readSum_13 : decode cX5_readSum 13 = .ok (.sipush 600, 3) := by decide +kernel
theorem dX5_readSum_16 : decode cX5_readSum 16 = .ok (.if_icmp .ge 63, 3) := by decide +kernel
theorem dX5_readSum_19 : decode cX5_readSum 19 = .ok (.aload_n 0, 1) := by decide +kernel
theorem dX5_readSum_20 : decode cX5_readSum 20 = .ok (.bipush 43, 2) := by decide +kernel
theorem dX5_readSum_22 : decode cX5_readSum 22 = .ok (.invokevirtual 156, 3) := by decide +kernel
theorem dX5_readSum_25 : decode cX5_readSum 25 = .ok (.ifCond .ne 12, 3) := by decide +kernel
theorem dX5_readSum_28 : decode cX5_readSum 28 = .ok (.aload_n 0, 1) := by decide +kernel
theorem dX5_readSum_29 : decode cX5_readSum 29 = .ok (.bipush 45, 2) := by decide +kernel
theorem dX5_readSum_31 : decode cX5_readSum 31 = .ok (.invokevirtual 156, 3) := by decide +kernel
theorem dX5_readSum_34 : decode cX5_readSum 34 = .ok (.ifCond .eq 45, 3) := by decide +kernel
theorem dX5_readSum_37 : decode cX5_readSum 37 = .ok (.aload_n 0, 1) := by decide +kernel
theorem dX5_readSum_38 : decode cX5_readSum 38 = .ok (.bipush 43, 2) := by decide +kernel
theorem dX5_readSum_40 : decode cX5_readSum 40 = .ok (.invokevirtual 156, 3) := by decide +kernel
theorem dX5_readSum_43 : decode cX5_readSum 43 = .ok (.ifCond .eq 8, 3) := by decide +kernel
theorem dX5_readSum_46 : decode cX5_readSum 46 = .ok (.bipush (-5), 2) := by decide +kernel
theorem dX5_readSum_48 : decode cX5_readSum 48 = .ok (.goto 5, 3) := by decide +kernel
theorem dX5_readSum_51 : decode cX5_readSum 51 = .ok (.bipush (-6), 2) := by decide +kernel
theorem dX5_readSum_53 : decode cX5_readSum 53 = .ok (.istore_n 3, 1) := by decide +kernel
theorem dX5_readSum_54 : decode cX5_readSum 54 = .ok (.aload_n 0, 1) := by decide +kernel
theorem dX5_readSum_55 : decode cX5_readSum 55 = .ok (.invokevirtual 44, 3) := by decide +kernel
theorem dX5_readSum_58 : decode cX5_readSum 58 = .ok (.aload_n 0, 1) := by decide +kernel
theorem dX5_readSum_59 : decode cX5_readSum 59 = .ok (.iload_n 1, 1) := by decide +kernel
theorem dX5_readSum_60 : decode cX5_readSum 60 = .ok (.invokevirtual 153, 3) := by decide +kernel
theorem dX5_readSum_63 : decode cX5_readSum 63 = .ok (.ifCond .ne 5, 3) := by decide +kernel
theorem dX5_readSum_66 : decode cX5_readSum 66 = .ok (.iconst 0, 1) := by decide +kernel
theorem dX5_readSum_67 : decode cX5_readSum 67 = .ok (.ireturn, 1) := by decide +kernel
theorem dX5_readSum_68 : decode cX5_readSum 68 = .ok (.aload_n 0, 1) := by decide +kernel
theorem dX5_readSum_69 : decode cX5_readSum 69 = .ok (.iload_n 3, 1) := by decide +kernel
theorem dX5_readSum_70 : decode cX5_readSum 70 = .ok (.invokevirtual 159, 3) := by decide +kernel
theorem dX5_readSum_73 : decode cX5_readSum 73 = .ok (.iinc 2 1, 3) := by decide +kernel
theorem dX5_readSum_76 : decode cX5_readSum 76 = .ok (.goto (-64), 3) := by decide +kernel
theorem dX5_readSum_79 : decode cX5_readSum 79 = .ok (.iconst 1, 1) := by decide +kernel
theorem dX5_readSum_80 : decode cX5_readSum 80 = .ok (.ireturn, 1) := by decide +kernel
theorem dX5_readTerm_0 : decode cX5_readTerm 0 = .ok (.aload_n 0, 1) := by decide +kernel
theorem dX5_readTerm_1 : decode cX5_readTerm 1 = .ok (.iload_n 1, 1) := by decide +kernel
theorem dX5_readTerm_2 : decode cX5_readTerm 2 = .ok (.invokevirtual 162, 3) := by decide +kernel
theorem dX5_readTerm_5 : decode cX5_readTerm 5 = .ok (.ifCond .ne 5, 3) := by decide +kernel
theorem dX5_readTerm_8 : decode cX5_readTerm 8 = .ok (.iconst 0, 1) := by decide +kernel
theorem dX5_readTerm_9 : decode cX5_readTerm 9 = .ok (.ireturn, 1) := by decide +kernel
theorem dX5_readTerm_10 : decode cX5_readTerm 10 = .ok (.iconst 0, 1) := by decide +kernel
theorem dX5_readTerm_11 : decode cX5_readTerm 11 = .ok (.istore_n 2, 1) := by decide +kernel
theorem dX5_readTerm_12 : decode cX5_readTerm 12 = .ok (.iload_n 2, 1) := by decide +kernel
theorem dX5_readTerm_13 : decode cX5_readTerm 13 = .ok (.sipush 600, 3) := by decide +kernel
theorem dX5_readTerm_16 : decode cX5_readTerm 16 = .ok (.if_icmp .ge 63, 3) := by decide +kernel
theorem dX5_readTerm_19 : decode cX5_readTerm 19 = .ok (.aload_n 0, 1) := by decide +kernel
theorem dX5_readTerm_20 : decode cX5_readTerm 20 = .ok (.bipush 42, 2) := by decide +kernel
theorem dX5_readTerm_22 : decode cX5_readTerm 22 = .ok (.invokevirtual 156, 3) := by decide +kernel
theorem dX5_readTerm_25 : decode cX5_readTerm 25 = .ok (.ifCond .ne 12, 3) := by decide +kernel
theorem dX5_readTerm_28 : decode cX5_readTerm 28 = .ok (.aload_n 0, 1) := by decide +kernel
theorem dX5_readTerm_29 : decode cX5_readTerm 29 = .ok (.bipush 47, 2) := by decide +kernel
theorem dX5_readTerm_31 : decode cX5_readTerm 31 = .ok (.invokevirtual 156, 3) := by decide +kernel
theorem dX5_readTerm_34 : decode cX5_readTerm 34 = .ok (.ifCond .eq 45, 3) := by decide +kernel
theorem dX5_readTerm_37 : decode cX5_readTerm 37 = .ok (.aload_n 0, 1) := by decide +kernel
theorem dX5_readTerm_38 : decode cX5_readTerm 38 = .ok (.bipush 42, 2) := by decide +kernel
theorem dX5_readTerm_40 : decode cX5_readTerm 40 = .ok (.invokevirtual 156, 3) := by decide +kernel
theorem dX5_readTerm_43 : decode cX5_readTerm 43 = .ok (.ifCond .eq 8, 3) := by decide +kernel
theorem dX5_readTerm_46 : decode cX5_readTerm 46 = .ok (.bipush (-7), 2) := by decide +kernel
theorem dX5_readTerm_48 : decode cX5_readTerm 48 = .ok (.goto 5, 3) := by decide +kernel
theorem dX5_readTerm_51 : decode cX5_readTerm 51 = .ok (.bipush (-8), 2) := by decide +kernel
theorem dX5_readTerm_53 : decode cX5_readTerm 53 = .ok (.istore_n 3, 1) := by decide +kernel
theorem dX5_readTerm_54 : decode cX5_readTerm 54 = .ok (.aload_n 0, 1) := by decide +kernel
theorem dX5_readTerm_55 : decode cX5_readTerm 55 = .ok (.invokevirtual 44, 3) := by decide +kernel
theorem dX5_readTerm_58 : decode cX5_readTerm 58 = .ok (.aload_n 0, 1) := by decide +kernel
theorem dX5_readTerm_59 : decode cX5_readTerm 59 = .ok (.iload_n 1, 1) := by decide +kernel
theorem dX5_readTerm_60 : decode cX5_readTerm 60 = .ok (.invokevirtual 162, 3) := by decide +kernel
theorem dX5_readTerm_63 : decode cX5_readTerm 63 = .ok (.ifCond .ne 5, 3) := by decide +kernel
theorem dX5_readTerm_66 : decode cX5_readTerm 66 = .ok (.iconst 0, 1) := by decide +kernel
theorem dX5_readTerm_67 : decode cX5_readTerm 67 = .ok (.ireturn, 1) := by decide +kernel
theorem dX5_readTerm_68 : decode cX5_readTerm 68 = .ok (.aload_n 0, 1) := by decide +kernel
theorem dX5_readTerm_69 : decode cX5_readTerm 69 = .ok (.iload_n 3, 1) := by decide +kernel
theorem dX5_readTerm_70 : decode cX5_readTerm 70 = .ok (.invokevirtual 159, 3) := by decide +kernel
theorem dX5_readTerm_73 : decode cX5_readTerm 73 = .ok (.iinc 2 1, 3) := by decide +kernel
theorem dX5_readTerm_76 : decode cX5_readTerm 76 = .ok (.goto (-64), 3) := by decide +kernel
theorem dX5_readTerm_79 : decode cX5_readTerm 79 = .ok (.iconst 1, 1) := by decide +kernel
theorem dX5_readTerm_80 : decode cX5_readTerm 80 = .ok (.ireturn, 1) := by decide +kernel
theorem dX5_readFactor_0 : decode cX5_readFactor 0 = .ok (.aload_n 0, 1) := by decide +kernel
theorem dX5_readFactor_1 : decode cX5_readFactor 1 = .ok (.getfield 73, 3) := by decide +kernel
theorem dX5_readFactor_4 : decode cX5_readFactor 4 = .ok (.iconst 1, 1) := by decide +kernel
theorem dX5_readFactor_5 : decode cX5_readFactor 5 = .ok (.if_icmp .ne 26, 3) := by decide +kernel
theorem dX5_readFactor_8 : decode cX5_readFactor 8 = .ok (.aload_n 0, 1) := by decide +kernel
theorem dX5_readFactor_9 : decode cX5_readFactor 9 = .ok (.iconst 0, 1) := by decide +kernel
theorem dX5_readFactor_10 : decode cX5_readFactor 10 = .ok (.sipush 9999, 3) := by decide +kernel
theorem dX5_readFactor_13 : decode cX5_readFactor 13 = .ok (.invokevirtual 55, 3) := by decide +kernel
theorem dX5_readFactor_16 : decode cX5_readFactor 16 = .ok (.ifCond .ne 5, 3) := by decide +kernel
theorem dX5_readFactor_19 : decode cX5_readFactor 19 = .ok (.iconst 0, 1) := by decide +kernel
theorem dX5_readFactor_20 : decode cX5_readFactor 20 = .ok (.ireturn, 1) := by decide +kernel
theorem dX5_readFactor_21 : decode cX5_readFactor 21 = .ok (.aload_n 0, 1) := by decide +kernel
theorem dX5_readFactor_22 : decode cX5_readFactor 22 = .ok (.aload_n 0, 1) := by decide +kernel
theorem dX5_readFactor_23 : decode cX5_readFactor 23 = .ok (.getfield 59, 3) := by decide +kernel
theorem dX5_readFactor_26 : decode cX5_readFactor 26 = .ok (.invokevirtual 159, 3) := by decide +kernel
theorem dX5_readFactor_29 : decode cX5_readFactor 29 = .ok (.iconst 1, 1) := by decide +kernel
theorem dX5_readFactor_30 : decode cX5_readFactor 30 = .ok (.ireturn, 1) := by decide +kernel
theorem dX5_readFactor_31 : decode cX5_readFactor 31 = .ok (.aload_n 0, 1) := by decide +kernel
theorem dX5_readFactor_32 : decode cX5_readFactor 32 = .ok (.bipush 40, 2) := by decide +kernel
theorem dX5_readFactor_34 : decode cX5_readFactor 34 = .ok (.invokevirtual 156, 3) := by decide +kernel
theorem dX5_readFactor_37 : decode cX5_readFactor 37 = .ok (.ifCond .eq 48, 3) := by decide +kernel
theorem dX5_readFactor_40 : decode cX5_readFactor 40 = .ok (.iload_n 1, 1) := by decide +kernel
theorem dX5_readFactor_41 : decode cX5_readFactor 41 = .ok (.iconst 4, 1) := by decide +kernel
theorem dX5_readFactor_42 : decode cX5_readFactor 42 = .ok (.if_icmp .lt 14, 3) := by decide +kernel
theorem dX5_readFactor_45 : decode cX5_readFactor 45 = .ok (.aload_n 0, 1) := by decide +kernel
theorem dX5_readFactor_46 : decode cX5_readFactor 46 = .ok (.bipush (-5), 2) := by decide +kernel
theorem dX5_readFactor_48 : decode cX5_readFactor 48 = .ok (.aload_n 0, 1) := by decide +kernel
theorem dX5_readFactor_49 : decode cX5_readFactor 49 = .ok (.getfield 124, 3) := by decide +kernel
theorem dX5_readFactor_52 : decode cX5_readFactor 52 = .ok (.invokevirtual 127, 3) := by decide +kernel
theorem dX5_readFactor_55 : decode cX5_readFactor 55 = .ok (.ireturn, 1) := by decide +kernel
theorem dX5_readFactor_56 : decode cX5_readFactor 56 = .ok (.aload_n 0, 1) := by decide +kernel
theorem dX5_readFactor_57 : decode cX5_readFactor 57 = .ok (.invokevirtual 44, 3) := by decide +kernel
theorem dX5_readFactor_60 : decode cX5_readFactor 60 = .ok (.aload_n 0, 1) := by decide +kernel
theorem dX5_readFactor_61 : decode cX5_readFactor 61 = .ok (.iload_n 1, 1) := by decide +kernel
theorem dX5_readFactor_62 : decode cX5_readFactor 62 = .ok (.iconst 1, 1) := by decide +kernel
theorem dX5_readFactor_63 : decode cX5_readFactor 63 = .ok (.iadd, 1) := by decide +kernel
theorem dX5_readFactor_64 : decode cX5_readFactor 64 = .ok (.invokevirtual 115, 3) := by decide +kernel
theorem dX5_readFactor_67 : decode cX5_readFactor 67 = .ok (.ifCond .eq 16, 3) := by decide +kernel
theorem dX5_readFactor_70 : decode cX5_readFactor 70 = .ok (.aload_n 0, 1) := by decide +kernel
theorem dX5_readFactor_71 : decode cX5_readFactor 71 = .ok (.bipush 41, 2) := by decide +kernel
theorem dX5_readFactor_73 : decode cX5_readFactor 73 = .ok (.invokevirtual 69, 3) := by decide +kernel
theorem dX5_readFactor_76 : decode cX5_readFactor 76 = .ok (.ifCond .eq 7, 3) := by decide +kernel
theorem dX5_readFactor_79 : decode cX5_readFactor 79 = .ok (.iconst 1, 1) := by decide +kernel
theorem dX5_readFactor_80 : decode cX5_readFactor 80 = .ok (.goto 4, 3) := by decide +kernel
theorem dX5_readFactor_83 : decode cX5_readFactor 83 = .ok (.iconst 0, 1) := by decide +kernel
theorem dX5_readFactor_84 : decode cX5_readFactor 84 = .ok (.ireturn, 1) := by decide +kernel
theorem dX5_readFactor_85 : decode cX5_readFactor 85 = .ok (.aload_n 0, 1) := by decide +kernel
theorem dX5_readFactor_86 : decode cX5_readFactor 86 = .ok (.invokevirtual 165, 3) := by decide +kernel
theorem dX5_readFactor_89 : decode cX5_readFactor 89 = .ok (.istore_n 2, 1) := by decide +kernel
theorem dX5_readFactor_90 : decode cX5_readFactor 90 = .ok (.iload_n 2, 1) := by decide +kernel
theorem dX5_readFactor_91 : decode cX5_readFactor 91 = .ok (.ifCond .ne 14, 3) := by decide +kernel
theorem dX5_readFactor_94 : decode cX5_readFactor 94 = .ok (.aload_n 0, 1) := by decide +kernel
theorem dX5_readFactor_95 : decode cX5_readFactor 95 = .ok (.bipush (-2), 2) := by decide +kernel
theorem dX5_readFactor_97 : decode cX5_readFactor 97 = .ok (.aload_n 0, 1) := by decide +kernel
theorem dX5_readFactor_98 : decode cX5_readFactor 98 = .ok (.getfield 124, 3) := by decide +kernel
theorem dX5_readFactor_101 : decode cX5_readFactor 101 = .ok (.invokevirtual 127, 3) := by decide +kernel
theorem dX5_readFactor_104 : decode cX5_readFactor 104 = .ok (.ireturn, 1) := by decide +kernel
theorem dX5_readFactor_105 : decode cX5_readFactor 105 = .ok (.aload_n 0, 1) := by decide +kernel
theorem dX5_readFactor_106 : decode cX5_readFactor 106 = .ok (.iload_n 2, 1) := by decide +kernel
theorem dX5_readFactor_107 : decode cX5_readFactor 107 = .ok (.invokevirtual 159, 3) := by decide +kernel
theorem dX5_readFactor_110 : decode cX5_readFactor 110 = .ok (.aload_n 0, 1) := by decide +kernel
theorem dX5_readFactor_111 : decode cX5_readFactor 111 = .ok (.invokevirtual 44, 3) := by decide +kernel
theorem dX5_readFactor_114 : decode cX5_readFactor 114 = .ok (.iconst 1, 1) := by decide +kernel
theorem dX5_readFactor_115 : decode cX5_readFactor 115 = .ok (.ireturn, 1) := by decide +kernel
theorem dX5_codeOfWord_0 : decode cX5_codeOfWord 0 = .ok (.aload_n 0, 1) := by decide +kernel
theorem dX5_codeOfWord_1 : decode cX5_codeOfWord 1 = .ok (.ldc 47, 2) := by decide +kernel
theorem dX5_codeOfWord_3 : decode cX5_codeOfWord 3 = .ok (.invokevirtual 85, 3) := by decide +kernel
theorem dX5_codeOfWord_6 : decode cX5_codeOfWord 6 = .ok (.ifCond .eq 5, 3) := by decide +kernel
theorem dX5_codeOfWord_9 : decode cX5_codeOfWord 9 = .ok (.iconst (-1), 1) := by decide +kernel
theorem dX5_codeOfWord_10 : decode cX5_codeOfWord 10 = .ok (.ireturn, 1) := by decide +kernel
theorem dX5_codeOfWord_11 : decode cX5_codeOfWord 11 = .ok (.aload_n 0, 1) := by decide +kernel
theorem dX5_codeOfWord_12 : decode cX5_codeOfWord 12 = .ok (.ldc 169, 2) := by decide +kernel
theorem dX5_codeOfWord_14 : decode cX5_codeOfWord 14 = .ok (.invokevirtual 85, 3) := by decide +kernel
theorem dX5_codeOfWord_17 : decode cX5_codeOfWord 17 = .ok (.ifCond .eq 6, 3) := by decide +kernel
theorem dX5_codeOfWord_20 : decode cX5_codeOfWord 20 = .ok (.bipush (-2), 2) := by decide +kernel
theorem dX5_codeOfWord_22 : decode cX5_codeOfWord 22 = .ok (.ireturn, 1) := by decide +kernel
theorem dX5_codeOfWord_23 : decode cX5_codeOfWord 23 = .ok (.aload_n 0, 1) := by decide +kernel
theorem dX5_codeOfWord_24 : decode cX5_codeOfWord 24 = .ok (.ldc 171, 2) := by decide +kernel
theorem dX5_codeOfWord_26 : decode cX5_codeOfWord 26 = .ok (.invokevirtual 85, 3) := by decide +kernel
theorem dX5_codeOfWord_29 : decode cX5_codeOfWord 29 = .ok (.ifCond .eq 6, 3) := by decide +kernel
theorem dX5_codeOfWord_32 : decode cX5_codeOfWord 32 = .ok (.bipush (-3), 2) := by decide +kernel
theorem dX5_codeOfWord_34 : decode cX5_codeOfWord 34 = .ok (.ireturn, 1) := by decide +kernel
theorem dX5_codeOfWord_35 : decode cX5_codeOfWord 35 = .ok (.aload_n 0, 1) := by decide +kernel
theorem dX5_codeOfWord_36 : decode cX5_codeOfWord 36 = .ok (.ldc 173, 2) := by decide +kernel
theorem dX5_codeOfWord_38 : decode cX5_codeOfWord 38 = .ok (.invokevirtual 85, 3) := by decide +kernel
theorem dX5_codeOfWord_41 : decode cX5_codeOfWord 41 = .ok (.ifCond .eq 8, 3) := by decide +kernel
theorem dX5_codeOfWord_44 : decode cX5_codeOfWord 44 = .ok (.bipush (-4), 2) := by decide +kernel
theorem dX5_codeOfWord_46 : decode cX5_codeOfWord 46 = .ok (.goto 4, 3) := by decide +kernel
theorem dX5_codeOfWord_49 : decode cX5_codeOfWord 49 = .ok (.iconst 0, 1) := by decide +kernel
theorem dX5_codeOfWord_50 : decode cX5_codeOfWord 50 = .ok (.ireturn, 1) := by decide +kernel
theorem dX5_putCode_0 : decode cX5_putCode 0 = .ok (.aload_n 0, 1) := by decide +kernel
theorem dX5_putCode_1 : decode cX5_putCode 1 = .ok (.getfield 38, 3) := by decide +kernel
theorem dX5_putCode_4 : decode cX5_putCode 4 = .ok (.aload_n 0, 1) := by decide +kernel
theorem dX5_putCode_5 : decode cX5_putCode 5 = .ok (.getfield 15, 3) := by decide +kernel
theorem dX5_putCode_8 : decode cX5_putCode 8 = .ok (.arraylength, 1) := by decide +kernel
theorem dX5_putCode_9 : decode cX5_putCode 9 = .ok (.if_icmp .ge 23, 3) := by decide +kernel
theorem dX5_putCode_12 : decode cX5_putCode 12 = .ok (.aload_n 0, 1) := by decide +kernel
theorem dX5_putCode_13 : decode cX5_putCode 13 = .ok (.getfield 15, 3) := by decide +kernel
theorem dX5_putCode_16 : decode cX5_putCode 16 = .ok (.aload_n 0, 1) := by decide +kernel
theorem dX5_putCode_17 : decode cX5_putCode 17 = .ok (.getfield 38, 3) := by decide +kernel
theorem dX5_putCode_20 : decode cX5_putCode 20 = .ok (.iload_n 1, 1) := by decide +kernel
theorem dX5_putCode_21 : decode cX5_putCode 21 = .ok (.iastore, 1) := by decide +kernel
theorem dX5_putCode_22 : decode cX5_putCode 22 = .ok (.aload_n 0, 1) := by decide +kernel
theorem dX5_putCode_23 : decode cX5_putCode 23 = .ok (.dup, 1) := by decide +kernel
theorem dX5_putCode_24 : decode cX5_putCode 24 = .ok (.getfield 38, 3) := by decide +kernel
theorem dX5_putCode_27 : decode cX5_putCode 27 = .ok (.iconst 1, 1) := by decide +kernel
theorem dX5_putCode_28 : decode cX5_putCode 28 = .ok (.iadd, 1) := by decide +kernel
theorem dX5_putCode_29 : decode cX5_putCode 29 = .ok (.putfield 38, 3) := by decide +kernel
theorem dX5_putCode_32 : decode cX5_putCode 32 = .ok (.return_, 1) := by decide +kernel
theorem dX5_takeWord_0 : decode cX5_takeWord 0 = .ok (.aload_n 0, 1) := by decide +kernel
theorem dX5_takeWord_1 : decode cX5_takeWord 1 = .ok (.aload_n 1, 1) := by decide +kernel
theorem dX5_takeWord_2 : decode cX5_takeWord 2 = .ok (.invokevirtual 85, 3) := by decide +kernel
theorem dX5_takeWord_5 : decode cX5_takeWord 5 = .ok (.ifCond .ne 14, 3) := by decide +kernel
theorem dX5_takeWord_8 : decode cX5_takeWord 8 = .ok (.aload_n 0, 1) := by decide +kernel
theorem dX5_takeWord_9 : decode cX5_takeWord 9 = .ok (.bipush (-2), 2) := by decide +kernel
theorem dX5_takeWord_11 : decode cX5_takeWord 11 = .ok (.aload_n 0, 1) := by decide +kernel
theorem dX5_takeWord_12 : decode cX5_takeWord 12 = .ok (.getfield 124, 3) := by decide +kernel
theorem dX5_takeWord_15 : decode cX5_takeWord 15 = .ok (.invokevirtual 127, 3) := by decide +kernel
theorem dX5_takeWord_18 : decode cX5_takeWord 18 = .ok (.ireturn, 1) := by decide +kernel
theorem dX5_takeWord_19 : decode cX5_takeWord 19 = .ok (.aload_n 0, 1) := by decide +kernel
theorem dX5_takeWord_20 : decode cX5_takeWord 20 = .ok (.invokevirtual 44, 3) := by decide +kernel
theorem dX5_takeWord_23 : decode cX5_takeWord 23 = .ok (.iconst 1, 1) := by decide +kernel
theorem dX5_takeWord_24 : decode cX5_takeWord 24 = .ok (.ireturn, 1) := by decide +kernel
theorem dX5_takeMark_0 : decode cX5_takeMark 0 = .ok (.aload_n 0, 1) := by decide +kernel
theorem dX5_takeMark_1 : decode cX5_takeMark 1 = .ok (.iload_n 1, 1) := by decide +kernel
theorem dX5_takeMark_2 : decode cX5_takeMark 2 = .ok (.invokevirtual 156, 3) := by decide +kernel
theorem dX5_takeMark_5 : decode cX5_takeMark 5 = .ok (.ifCond .ne 14, 3) := by decide +kernel
theorem dX5_takeMark_8 : decode cX5_takeMark 8 = .ok (.aload_n 0, 1) := by decide +kernel
theorem dX5_takeMark_9 : decode cX5_takeMark 9 = .ok (.bipush (-2), 2) := by decide +kernel
theorem dX5_takeMark_11 : decode cX5_takeMark 11 = .ok (.aload_n 0, 1) := by decide +kernel
theorem dX5_takeMark_12 : decode cX5_takeMark 12 = .ok (.getfield 124, 3) := by decide +kernel
theorem dX5_takeMark_15 : decode cX5_takeMark 15 = .ok (.invokevirtual 127, 3) := by decide +kernel
theorem dX5_takeMark_18 : decode cX5_takeMark 18 = .ok (.ireturn, 1) := by decide +kernel
theorem dX5_takeMark_19 : decode cX5_takeMark 19 = .ok (.aload_n 0, 1) := by decide +kernel
theorem dX5_takeMark_20 : decode cX5_takeMark 20 = .ok (.invokevirtual 44, 3) := by decide +kernel
theorem dX5_takeMark_23 : decode cX5_takeMark 23 = .ok (.iconst 1, 1) := by decide +kernel
theorem dX5_takeMark_24 : decode cX5_takeMark 24 = .ok (.ireturn, 1) := by decide +kernel
theorem dX5_takeNumber_0 : decode cX5_takeNumber 0 = .ok (.aload_n 0, 1) := by decide +kernel
theorem dX5_takeNumber_1 : decode cX5_takeNumber 1 = .ok (.getfield 73, 3) := by decide +kernel
theorem dX5_takeNumber_4 : decode cX5_takeNumber 4 = .ok (.iconst 1, 1) := by decide +kernel
theorem dX5_takeNumber_5 : decode cX5_takeNumber 5 = .ok (.if_icmp .eq 14, 3) := by decide +kernel
theorem dX5_takeNumber_8 : decode cX5_takeNumber 8 = .ok (.aload_n 0, 1) := by decide +kernel
theorem dX5_takeNumber_9 : decode cX5_takeNumber 9 = .ok (.bipush (-2), 2) := by decide +kernel
theorem dX5_takeNumber_11 : decode cX5_takeNumber 11 = .ok (.aload_n 0, 1) := by decide +kernel
theorem dX5_takeNumber_12 : decode cX5_takeNumber 12 = .ok (.getfield 124, 3) := by decide +kernel
theorem dX5_takeNumber_15 : decode cX5_takeNumber 15 = .ok (.invokevirtual 127, 3) := by decide +kernel
theorem dX5_takeNumber_18 : decode cX5_takeNumber 18 = .ok (.ireturn, 1) := by decide +kernel
theorem dX5_takeNumber_19 : decode cX5_takeNumber 19 = .ok (.aload_n 0, 1) := by decide +kernel
theorem dX5_takeNumber_20 : decode cX5_takeNumber 20 = .ok (.getfield 175, 3) := by decide +kernel
theorem dX5_takeNumber_23 : decode cX5_takeNumber 23 = .ok (.iload_n 1, 1) := by decide +kernel
theorem dX5_takeNumber_24 : decode cX5_takeNumber 24 = .ok (.if_icmp .lt 11, 3) := by decide +kernel
theorem dX5_takeNumber_27 : decode cX5_takeNumber 27 = .ok (.aload_n 0, 1) := by decide +kernel
theorem dX5_takeNumber_28 : decode cX5_takeNumber 28 = .ok (.getfield 175, 3) := by decide +kernel
theorem dX5_takeNumber_31 : decode cX5_takeNumber 31 = .ok (.iload_n 2, 1) := by decide +kernel
theorem dX5_takeNumber_32 : decode cX5_takeNumber 32 = .ok (.if_icmp .le 14, 3) := by decide +kernel
theorem dX5_takeNumber_35 : decode cX5_takeNumber 35 = .ok (.aload_n 0, 1) := by decide +kernel
theorem dX5_takeNumber_36 : decode cX5_takeNumber 36 = .ok (.bipush (-3), 2) := by decide +kernel
theorem dX5_takeNumber_38 : decode cX5_takeNumber 38 = .ok (.aload_n 0, 1) := by decide +kernel
theorem dX5_takeNumber_39 : decode cX5_takeNumber 39 = .ok (.getfield 124, 3) := by decide +kernel
theorem dX5_takeNumber_42 : decode cX5_takeNumber 42 = .ok (.invokevirtual 127, 3) := by decide +kernel
theorem dX5_takeNumber_45 : decode cX5_takeNumber 45 = .ok (.ireturn, 1) := by decide +kernel
theorem dX5_takeNumber_46 : decode cX5_takeNumber 46 = .ok (.aload_n 0, 1) := by decide +kernel
theorem dX5_takeNumber_47 : decode cX5_takeNumber 47 = .ok (.aload_n 0, 1) := by decide +kernel
theorem dX5_takeNumber_48 : decode cX5_takeNumber 48 = .ok (.getfield 175, 3) := by decide +kernel
theorem dX5_takeNumber_51 : decode cX5_takeNumber 51 = .ok (.putfield 59, 3) := by decide +kernel
theorem dX5_takeNumber_54 : decode cX5_takeNumber 54 = .ok (.aload_n 0, 1) := by decide +kernel
theorem dX5_takeNumber_55 : decode cX5_takeNumber 55 = .ok (.aload_n 0, 1) := by decide +kernel
theorem dX5_takeNumber_56 : decode cX5_takeNumber 56 = .ok (.getfield 124, 3) := by decide +kernel
theorem dX5_takeNumber_59 : decode cX5_takeNumber 59 = .ok (.putfield 135, 3) := by decide +kernel
theorem dX5_takeNumber_62 : decode cX5_takeNumber 62 = .ok (.aload_n 0, 1) := by decide +kernel
theorem dX5_takeNumber_63 : decode cX5_takeNumber 63 = .ok (.invokevirtual 44, 3) := by decide +kernel
theorem dX5_takeNumber_66 : decode cX5_takeNumber 66 = .ok (.iconst 1, 1) := by decide +kernel
theorem dX5_takeNumber_67 : decode cX5_takeNumber 67 = .ok (.ireturn, 1) := by decide +kernel
theorem dX5_takeSigned_0 : decode cX5_takeSigned 0 = .ok (.aload_n 0, 1) := by decide +kernel
theorem dX5_takeSigned_1 : decode cX5_takeSigned 1 = .ok (.bipush 45, 2) := by decide +kernel
theorem dX5_takeSigned_3 : decode cX5_takeSigned 3 = .ok (.invokevirtual 156, 3) := by decide +kernel
theorem dX5_takeSigned_6 : decode cX5_takeSigned 6 = .ok (.istore_n 2, 1) := by decide +kernel
theorem dX5_takeSigned_7 : decode cX5_takeSigned 7 = .ok (.aload_n 0, 1) := by decide +kernel
theorem dX5_takeSigned_8 : decode cX5_takeSigned 8 = .ok (.getfield 124, 3) := by decide +kernel
theorem dX5_takeSigned_11 : decode cX5_takeSigned 11 = .ok (.istore_n 3, 1) := by decide +kernel
theorem dX5_takeSigned_12 : decode cX5_takeSigned 12 = .ok (.iload_n 2, 1) := by decide +kernel
theorem dX5_takeSigned_13 : decode cX5_takeSigned 13 = .ok (.ifCond .eq 7, 3) := by decide +kernel
theorem dX5_takeSigned_16 : decode cX5_takeSigned 16 = .ok (.aload_n 0, 1) := by decide +kernel
theorem dX5_takeSigned_17 : decode cX5_takeSigned 17 = .ok (.invokevirtual 44, 3) := by decide +kernel
theorem dX5_takeSigned_20 : decode cX5_takeSigned 20 = .ok (.aload_n 0, 1) := by decide +kernel
theorem dX5_takeSigned_21 : decode cX5_takeSigned 21 = .ok (.getfield 73, 3) := by decide +kernel
theorem dX5_takeSigned_24 : decode cX5_takeSigned 24 = .ok (.iconst 1, 1) := by decide +kernel
theorem dX5_takeSigned_25 : decode cX5_takeSigned 25 = .ok (.if_icmp .eq 14, 3) := by decide +kernel
theorem dX5_takeSigned_28 : decode cX5_takeSigned 28 = .ok (.aload_n 0, 1) := by decide +kernel
theorem dX5_takeSigned_29 : decode cX5_takeSigned 29 = .ok (.bipush (-2), 2) := by decide +kernel
theorem dX5_takeSigned_31 : decode cX5_takeSigned 31 = .ok (.aload_n 0, 1) := by decide +kernel
theorem dX5_takeSigned_32 : decode cX5_takeSigned 32 = .ok (.getfield 124, 3) := by decide +kernel
theorem dX5_takeSigned_35 : decode cX5_takeSigned 35 = .ok (.invokevirtual 127, 3) := by decide +kernel
theorem dX5_takeSigned_38 : decode cX5_takeSigned 38 = .ok (.ireturn, 1) := by decide +kernel
theorem dX5_takeSigned_39 : decode cX5_takeSigned 39 = .ok (.aload_n 0, 1) := by decide +kernel
theorem dX5_takeSigned_40 : decode cX5_takeSigned 40 = .ok (.getfield 175, 3) := by decide +kernel
theorem dX5_takeSigned_43 : decode cX5_takeSigned 43 = .ok (.iload_n 1, 1) := by decide +kernel
theorem dX5_takeSigned_44 : decode cX5_takeSigned 44 = .ok (.if_icmp .le 11, 3) := by decide +kernel
theorem dX5_takeSigned_47 : decode cX5_takeSigned 47 = .ok (.aload_n 0, 1) := by decide +kernel
theorem dX5_takeSigned_48 : decode cX5_takeSigned 48 = .ok (.bipush (-3), 2) := by decide +kernel
theorem dX5_takeSigned_50 : decode cX5_takeSigned 50 = .ok (.iload_n 3, 1) := by decide +kernel
theorem dX5_takeSigned_51 : decode cX5_takeSigned 51 = .ok (.invokevirtual 127, 3) := by decide +kernel
theorem dX5_takeSigned_54 : decode cX5_takeSigned 54 = .ok (.ireturn, 1) := by decide +kernel
theorem dX5_takeSigned_55 : decode cX5_takeSigned 55 = .ok (.aload_n 0, 1) := by decide +kernel
theorem dX5_takeSigned_56 : decode cX5_takeSigned 56 = .ok (.iload_n 2, 1) := by decide +kernel
theorem dX5_takeSigned_57 : decode cX5_takeSigned 57 = .ok (.ifCond .eq 11, 3) := by decide +kernel
theorem dX5_takeSigned_60 : decode cX5_takeSigned 60 = .ok (.aload_n 0, 1) := by decide +kernel
theorem dX5_takeSigned_61 : decode cX5_takeSigned 61 = .ok (.getfield 175, 3) := by decide +kernel
theorem dX5_takeSigned_64 : decode cX5_takeSigned 64 = .ok (.ineg, 1) := by decide +kernel
theorem dX5_takeSigned_65 : decode cX5_takeSigned 65 = .ok (.goto 7, 3) := by decide +kernel
theorem dX5_takeSigned_68 : decode cX5_takeSigned 68 = .ok (.aload_n 0, 1) := by decide +kernel
theorem dX5_takeSigned_69 : decode cX5_takeSigned 69 = .ok (.getfield 175, 3) := by decide +kernel
theorem dX5_takeSigned_72 : decode cX5_takeSigned 72 = .ok (.putfield 59, 3) := by decide +kernel
theorem dX5_takeSigned_75 : decode cX5_takeSigned 75 = .ok (.aload_n 0, 1) := by decide +kernel
theorem dX5_takeSigned_76 : decode cX5_takeSigned 76 = .ok (.invokevirtual 44, 3) := by decide +kernel
theorem dX5_takeSigned_79 : decode cX5_takeSigned 79 = .ok (.iconst 1, 1) := by decide +kernel
theorem dX5_takeSigned_80 : decode cX5_takeSigned 80 = .ok (.ireturn, 1) := by decide +kernel
theorem dX5_isMark_0 : decode cX5_isMark 0 = .ok (.aload_n 0, 1) := by decide +kernel
theorem dX5_isMark_1 : decode cX5_isMark 1 = .ok (.getfield 73, 3) := by decide +kernel
theorem dX5_isMark_4 : decode cX5_isMark 4 = .ok (.iconst 3, 1) := by decide +kernel
theorem dX5_isMark_5 : decode cX5_isMark 5 = .ok (.if_icmp .ne 15, 3) := by decide +kernel
theorem dX5_isMark_8 : decode cX5_isMark 8 = .ok (.aload_n 0, 1) := by decide +kernel
theorem dX5_isMark_9 : decode cX5_isMark 9 = .ok (.getfield 175, 3) := by decide +kernel
theorem dX5_isMark_12 : decode cX5_isMark 12 = .ok (.iload_n 1, 1) := by decide +kernel
theorem dX5_isMark_13 : decode cX5_isMark 13 = .ok (.if_icmp .ne 7, 3) := by decide +kernel
theorem dX5_isMark_16 : decode cX5_isMark 16 = .ok (.iconst 1, 1) := by decide +kernel
theorem dX5_isMark_17 : decode cX5_isMark 17 = .ok (.goto 4, 3) := by decide +kernel
theorem dX5_isMark_20 : decode cX5_isMark 20 = .ok (.iconst 0, 1) := by decide +kernel
theorem dX5_isMark_21 : decode cX5_isMark 21 = .ok (.ireturn, 1) := by decide +kernel
theorem dX5_isWord_0 : decode cX5_isWord 0 = .ok (.aload_n 0, 1) := by decide +kernel
theorem dX5_isWord_1 : decode cX5_isWord 1 = .ok (.getfield 73, 3) := by decide +kernel
theorem dX5_isWord_4 : decode cX5_isWord 4 = .ok (.iconst 2, 1) := by decide +kernel
theorem dX5_isWord_5 : decode cX5_isWord 5 = .ok (.if_icmp .ne 31, 3) := by decide +kernel
theorem dX5_isWord_8 : decode cX5_isWord 8 = .ok (.aload_n 0, 1) := by decide +kernel
theorem dX5_isWord_9 : decode cX5_isWord 9 = .ok (.getfield 35, 3) := by decide +kernel
theorem dX5_isWord_12 : decode cX5_isWord 12 = .ok (.aload_n 0, 1) := by decide +kernel
theorem dX5_isWord_13 : decode cX5_isWord 13 = .ok (.getfield 124, 3) := by decide +kernel
theorem dX5_isWord_16 : decode cX5_isWord 16 = .ok (.isub, 1) := by decide +kernel
theorem dX5_isWord_17 : decode cX5_isWord 17 = .ok (.aload_n 1, 1) := by decide +kernel
theorem dX5_isWord_18 : decode cX5_isWord 18 = .ok (.invokevirtual 178, 3) := by decide +kernel
theorem dX5_isWord_21 : decode cX5_isWord 21 = .ok (.if_icmp .ne 15, 3) := by decide +kernel
theorem dX5_isWord_24 : decode cX5_isWord 24 = .ok (.aload_n 0, 1) := by decide +kernel
theorem dX5_isWord_25 : decode cX5_isWord 25 = .ok (.getfield 35, 3) := by decide +kernel
theorem dX5_isWord_28 : decode cX5_isWord 28 = .ok (.aload_n 0, 1) := by decide +kernel
theorem dX5_isWord_29 : decode cX5_isWord 29 = .ok (.getfield 11, 3) := by decide +kernel
theorem dX5_isWord_32 : decode cX5_isWord 32 = .ok (.arraylength, 1) := by decide +kernel
theorem dX5_isWord_33 : decode cX5_isWord 33 = .ok (.if_icmp .le 5, 3) := by decide +kernel
theorem dX5_isWord_36 : decode cX5_isWord 36 = .ok (.iconst 0, 1) := by decide +kernel
theorem dX5_isWord_37 : decode cX5_isWord 37 = .ok (.ireturn, 1) := by decide +kernel
theorem dX5_isWord_38 : decode cX5_isWord 38 = .ok (.iconst 0, 1) := by decide +kernel
theorem dX5_isWord_39 : decode cX5_isWord 39 = .ok (.istore_n 2, 1) := by decide +kernel
theorem dX5_isWord_40 : decode cX5_isWord 40 = .ok (.iload_n 2, 1) := by decide +kernel
theorem dX5_isWord_41 : decode cX5_isWord 41 = .ok (.aload_n 1, 1) := by decide +kernel
theorem dX5_isWord_42 : decode cX5_isWord 42 = .ok (.invokevirtual 178, 3) := by decide +kernel
theorem dX5_isWord_45 : decode cX5_isWord 45 = .ok (.if_icmp .ge 43, 3) := by decide +kernel
theorem dX5_isWord_48 : decode cX5_isWord 48 = .ok (.aload_n 0, 1) := by decide +kernel
theorem dX5_isWord_49 : decode cX5_isWord 49 = .ok (.getfield 124, 3) := by decide +kernel
theorem dX5_isWord_52 : decode cX5_isWord 52 = .ok (.iload_n 2, 1) := by decide +kernel
theorem dX5_isWord_53 : decode cX5_isWord 53 = .ok (.iadd, 1) := by decide +kernel
theorem dX5_isWord_54 : decode cX5_isWord 54 = .ok (.aload_n 0, 1) := by decide +kernel
theorem dX5_isWord_55 : decode cX5_isWord 55 = .ok (.getfield 35, 3) := by decide +kernel
theorem dX5_isWord_58 : decode cX5_isWord 58 = .ok (.if_icmp .ge 30, 3) := by decide +kernel
theorem dX5_isWord_61 : decode cX5_isWord 61 = .ok (.aload_n 0, 1) := by decide +kernel
theorem dX5_isWord_62 : decode cX5_isWord 62 = .ok (.getfield 11, 3) := by decide +kernel
theorem dX5_isWord_65 : decode cX5_isWord 65 = .ok (.aload_n 0, 1) := by decide +kernel
theorem dX5_isWord_66 : decode cX5_isWord 66 = .ok (.getfield 124, 3) := by decide +kernel
theorem dX5_isWord_69 : decode cX5_isWord 69 = .ok (.iload_n 2, 1) := by decide +kernel
theorem dX5_isWord_70 : decode cX5_isWord 70 = .ok (.iadd, 1) := by decide +kernel
theorem dX5_isWord_71 : decode cX5_isWord 71 = .ok (.baload, 1) := by decide +kernel
theorem dX5_isWord_72 : decode cX5_isWord 72 = .ok (.aload_n 1, 1) := by decide +kernel
theorem dX5_isWord_73 : decode cX5_isWord 73 = .ok (.iload_n 2, 1) := by decide +kernel
theorem dX5_isWord_74 : decode cX5_isWord 74 = .ok (.invokevirtual 182, 3) := by decide +kernel
theorem dX5_isWord_77 : decode cX5_isWord 77 = .ok (.if_icmp .eq 5, 3) := by decide +kernel
theorem dX5_isWord_80 : decode cX5_isWord 80 = .ok (.iconst 0, 1) := by decide +kernel
theorem dX5_isWord_81 : decode cX5_isWord 81 = .ok (.ireturn, 1) := by decide +kernel
theorem dX5_isWord_82 : decode cX5_isWord 82 = .ok (.iinc 2 1, 3) := by decide +kernel
theorem dX5_isWord_85 : decode cX5_isWord 85 = .ok (.goto (-45), 3) := by decide +kernel
theorem dX5_isWord_88 : decode cX5_isWord 88 = .ok (.iconst 1, 1) := by decide +kernel
theorem dX5_isWord_89 : decode cX5_isWord 89 = .ok (.ireturn, 1) := by decide +kernel
theorem dX5_fail_0 : decode cX5_fail 0 = .ok (.aload_n 0, 1) := by decide +kernel
theorem dX5_fail_1 : decode cX5_fail 1 = .ok (.iload_n 1, 1) := by decide +kernel
theorem dX5_fail_2 : decode cX5_fail 2 = .ok (.putfield 186, 3) := by decide +kernel
theorem dX5_fail_5 : decode cX5_fail 5 = .ok (.aload_n 0, 1) := by decide +kernel
theorem dX5_fail_6 : decode cX5_fail 6 = .ok (.iload_n 2, 1) := by decide +kernel
theorem dX5_fail_7 : decode cX5_fail 7 = .ok (.putfield 41, 3) := by decide +kernel
theorem dX5_fail_10 : decode cX5_fail 10 = .ok (.iconst 0, 1) := by decide +kernel
theorem dX5_fail_11 : decode cX5_fail 11 = .ok (.ireturn, 1) := by decide +kernel
theorem dX5_step_0 : decode cX5_step 0 = .ok (.aload_n 0, 1) := by decide +kernel
theorem dX5_step_1 : decode cX5_step 1 = .ok (.getfield 35, 3) := by decide +kernel
theorem dX5_step_4 : decode cX5_step 4 = .ok (.aload_n 0, 1) := by decide +kernel
theorem dX5_step_5 : decode cX5_step 5 = .ok (.getfield 32, 3) := by decide +kernel
theorem dX5_step_8 : decode cX5_step 8 = .ok (.if_icmp .ge 30, 3) := by decide +kernel
theorem dX5_step_11 : decode cX5_step 11 = .ok (.aload_n 0, 1) := by decide +kernel
theorem dX5_step_12 : decode cX5_step 12 = .ok (.getfield 11, 3) := by decide +kernel
theorem dX5_step_15 : decode cX5_step 15 = .ok (.aload_n 0, 1) := by decide +kernel
theorem dX5_step_16 : decode cX5_step 16 = .ok (.getfield 35, 3) := by decide +kernel
theorem dX5_step_19 : decode cX5_step 19 = .ok (.baload, 1) := by decide +kernel
theorem dX5_step_20 : decode cX5_step 20 = .ok (.bipush 32, 2) := by decide +kernel
theorem dX5_step_22 : decode cX5_step 22 = .ok (.if_icmp .ne 16, 3) := by decide +kernel
theorem dX5_step_25 : decode cX5_step 25 = .ok (.aload_n 0, 1) := by decide +kernel
theorem dX5_step_26 : decode cX5_step 26 = .ok (.dup, 1) := by decide +kernel
theorem dX5_step_27 : decode cX5_step 27 = .ok (.getfield 35, 3) := by decide +kernel
theorem dX5_step_30 : decode cX5_step 30 = .ok (.iconst 1, 1) := by decide +kernel
theorem dX5_step_31 : decode cX5_step 31 = .ok (.iadd, 1) := by decide +kernel
theorem dX5_step_32 : decode cX5_step 32 = .ok (.putfield 35, 3) := by decide +kernel
theorem dX5_step_35 : decode cX5_step 35 = .ok (.goto (-35), 3) := by decide +kernel
theorem dX5_step_38 : decode cX5_step 38 = .ok (.aload_n 0, 1) := by decide +kernel
theorem dX5_step_39 : decode cX5_step 39 = .ok (.aload_n 0, 1) := by decide +kernel
theorem dX5_step_40 : decode cX5_step 40 = .ok (.getfield 35, 3) := by decide +kernel
theorem dX5_step_43 : decode cX5_step 43 = .ok (.putfield 124, 3) := by decide +kernel
theorem dX5_step_46 : decode cX5_step 46 = .ok (.aload_n 0, 1) := by decide +kernel
theorem dX5_step_47 : decode cX5_step 47 = .ok (.iconst 0, 1) := by decide +kernel
theorem dX5_step_48 : decode cX5_step 48 = .ok (.putfield 175, 3) := by decide +kernel
theorem dX5_step_51 : decode cX5_step 51 = .ok (.aload_n 0, 1) := by decide +kernel
theorem dX5_step_52 : decode cX5_step 52 = .ok (.getfield 35, 3) := by decide +kernel
theorem dX5_step_55 : decode cX5_step 55 = .ok (.aload_n 0, 1) := by decide +kernel
theorem dX5_step_56 : decode cX5_step 56 = .ok (.getfield 32, 3) := by decide +kernel
theorem dX5_step_59 : decode cX5_step 59 = .ok (.if_icmp .lt 9, 3) := by decide +kernel
theorem dX5_step_62 : decode cX5_step 62 = .ok (.aload_n 0, 1) := by decide +kernel
theorem dX5_step_63 : decode cX5_step 63 = .ok (.iconst 0, 1) := by decide +kernel
theorem dX5_step_64 : decode cX5_step 64 = .ok (.putfield 73, 3) := by decide +kernel
theorem dX5_step_67 : decode cX5_step 67 = .ok (.return_, 1) := by decide +kernel
theorem dX5_step_68 : decode cX5_step 68 = .ok (.aload_n 0, 1) := by decide +kernel
theorem dX5_step_69 : decode cX5_step 69 = .ok (.getfield 11, 3) := by decide +kernel
theorem dX5_step_72 : decode cX5_step 72 = .ok (.aload_n 0, 1) := by decide +kernel
theorem dX5_step_73 : decode cX5_step 73 = .ok (.getfield 35, 3) := by decide +kernel
theorem dX5_step_76 : decode cX5_step 76 = .ok (.baload, 1) := by decide +kernel
theorem dX5_step_77 : decode cX5_step 77 = .ok (.istore_n 1, 1) := by decide +kernel
theorem dX5_step_78 : decode cX5_step 78 = .ok (.iload_n 1, 1) := by decide +kernel
theorem dX5_step_79 : decode cX5_step 79 = .ok (.bipush 48, 2) := by decide +kernel
theorem dX5_step_81 : decode cX5_step 81 = .ok (.if_icmp .lt 103, 3) := by decide +kernel
theorem dX5_step_84 : decode cX5_step 84 = .ok (.iload_n 1, 1) := by decide +kernel
theorem dX5_step_85 : decode cX5_step 85 = .ok (.bipush 57, 2) := by decide +kernel
theorem dX5_step_87 : decode cX5_step 87 = .ok (.if_icmp .gt 97, 3) := by decide +kernel
theorem dX5_step_90 : decode cX5_step 90 = .ok (.aload_n 0, 1) := by decide +kernel
theorem dX5_step_91 : decode cX5_step 91 = .ok (.iconst 1, 1) := by decide +kernel
theorem dX5_step_92 : decode cX5_step 92 = .ok (.putfield 73, 3) := by decide +kernel
theorem dX5_step_95 : decode cX5_step 95 = .ok (.aload_n 0, 1) := by decide +kernel
theorem dX5_step_96 : decode cX5_step 96 = .ok (.getfield 35, 3) := by decide +kernel
theorem dX5_step_99 : decode cX5_step 99 = .ok (.aload_n 0, 1) := by decide +kernel
theorem dX5_step_100 : decode cX5_step 100 = .ok (.getfield 32, 3) := by decide +kernel
theorem dX5_step_103 : decode cX5_step 103 = .ok (.if_icmp .ge 170, 3) := by decide +kernel
theorem dX5_step_106 : decode cX5_step 106 = .ok (.aload_n 0, 1) := by decide +kernel
theorem dX5_step_107 : decode cX5_step 107 = .ok (.getfield 11, 3) := by decide +kernel
theorem dX5_step_110 : decode cX5_step 110 = .ok (.aload_n 0, 1) := by decide +kernel
theorem dX5_step_111 : decode cX5_step 111 = .ok (.getfield 35, 3) := by decide +kernel
theorem dX5_step_114 : decode cX5_step 114 = .ok (.baload, 1) := by decide +kernel
theorem dX5_step_115 : decode cX5_step 115 = .ok (.bipush 48, 2) := by decide +kernel
theorem dX5_step_117 : decode cX5_step 117 = .ok (.if_icmp .lt 156, 3) := by decide +kernel
theorem dX5_step_120 : decode cX5_step 120 = .ok (.aload_n 0, 1) := by decide +kernel
theorem dX5_step_121 : decode cX5_step 121 = .ok (.getfield 11, 3) := by decide +kernel
theorem dX5_step_124 : decode cX5_step 124 = .ok (.aload_n 0, 1) := by decide +kernel
theorem dX5_step_125 : decode cX5_step 125 = .ok (.getfield 35, 3) := by decide +kernel
theorem dX5_step_128 : decode cX5_step 128 = .ok (.baload, 1) := by decide +kernel
theorem dX5_step_129 : decode cX5_step 129 = .ok (.bipush 57, 2) := by decide +kernel
theorem dX5_step_131 : decode cX5_step 131 = .ok (.if_icmp .gt 142, 3) := by decide +kernel
theorem dX5_step_134 : decode cX5_step 134 = .ok (.bipush 10, 2) := by decide +kernel
theorem dX5_step_136 : decode cX5_step 136 = .ok (.aload_n 0, 1) := by decide +kernel
theorem dX5_step_137 : decode cX5_step 137 = .ok (.getfield 175, 3) := by decide +kernel
theorem dX5_step_140 : decode cX5_step 140 = .ok (.imul, 1) := by decide +kernel
theorem dX5_step_141 : decode cX5_step 141 = .ok (.aload_n 0, 1) := by decide +kernel
theorem dX5_step_142 : decode cX5_step 142 = .ok (.getfield 11, 3) := by decide +kernel
theorem dX5_step_145 : decode cX5_step 145 = .ok (.aload_n 0, 1) := by decide +kernel
theorem dX5_step_146 : decode cX5_step 146 = .ok (.getfield 35, 3) := by decide +kernel
theorem dX5_step_149 : decode cX5_step 149 = .ok (.baload, 1) := by decide +kernel
theorem dX5_step_150 : decode cX5_step 150 = .ok (.iadd, 1) := by decide +kernel
theorem dX5_step_151 : decode cX5_step 151 = .ok (.bipush 48, 2) := by decide +kernel
theorem dX5_step_153 : decode cX5_step 153 = .ok (.isub, 1) := by decide +kernel
theorem dX5_step_154 : decode cX5_step 154 = .ok (.istore_n 2, 1) := by decide +kernel
theorem dX5_step_155 : decode cX5_step 155 = .ok (.aload_n 0, 1) := by decide +kernel
theorem dX5_step_156 : decode cX5_step 156 = .ok (.iload_n 2, 1) := by decide +kernel
theorem dX5_step_157 : decode cX5_step 157 = .ok (.ldc 189, 2) := by decide +kernel
theorem dX5_step_159 : decode cX5_step 159 = .ok (.if_icmp .ge 7, 3) := by decide +kernel
theorem dX5_step_162 : decode cX5_step 162 = .ok (.iload_n 2, 1) := by decide +kernel
theorem dX5_step_163 : decode cX5_step 163 = .ok (.goto 5, 3) := by decide +kernel
theorem dX5_step_166 : decode cX5_step 166 = .ok (.ldc 189, 2) := by decide +kernel
theorem dX5_step_168 : decode cX5_step 168 = .ok (.putfield 175, 3) := by decide +kernel
theorem dX5_step_171 : decode cX5_step 171 = .ok (.aload_n 0, 1) := by decide +kernel
theorem dX5_step_172 : decode cX5_step 172 = .ok (.dup, 1) := by decide +kernel
theorem dX5_step_173 : decode cX5_step 173 = .ok (.getfield 35, 3) := by decide +kernel
theorem dX5_step_176 : decode cX5_step 176 = .ok (.iconst 1, 1) := by decide +kernel
theorem dX5_step_177 : decode cX5_step 177 = .ok (.iadd, 1) := by decide +kernel
theorem dX5_step_178 : decode cX5_step 178 = .ok (.putfield 35, 3) := by decide +kernel
theorem dX5_step_181 : decode cX5_step 181 = .ok (.goto (-86), 3) := by decide +kernel
theorem dX5_step_184 : decode cX5_step 184 = .ok (.iload_n 1, 1) := by decide +kernel
theorem dX5_step_185 : decode cX5_step 185 = .ok (.bipush 97, 2) := by decide +kernel
theorem dX5_step_187 : decode cX5_step 187 = .ok (.if_icmp .lt 66, 3) := by decide +kernel
theorem dX5_step_190 : decode cX5_step 190 = .ok (.iload_n 1, 1) := by decide +kernel
theorem dX5_step_191 : decode cX5_step 191 = .ok (.bipush 122, 2) := by decide +kernel
theorem dX5_step_193 : decode cX5_step 193 = .ok (.if_icmp .gt 60, 3) := by decide +kernel
theorem dX5_step_196 : decode cX5_step 196 = .ok (.aload_n 0, 1) := by decide +kernel
theorem dX5_step_197 : decode cX5_step 197 = .ok (.iconst 2, 1) := by decide +kernel
theorem dX5_step_198 : decode cX5_step 198 = .ok (.putfield 73, 3) := by decide +kernel
theorem dX5_step_201 : decode cX5_step 201 = .ok (.aload_n 0, 1) := by decide +kernel
theorem dX5_step_202 : decode cX5_step 202 = .ok (.getfield 35, 3) := by decide +kernel
theorem dX5_step_205 : decode cX5_step 205 = .ok (.aload_n 0, 1) := by decide +kernel
theorem dX5_step_206 : decode cX5_step 206 = .ok (.getfield 32, 3) := by decide +kernel
theorem dX5_step_209 : decode cX5_step 209 = .ok (.if_icmp .ge 64, 3) := by decide +kernel
theorem dX5_step_212 : decode cX5_step 212 = .ok (.aload_n 0, 1) := by decide +kernel
theorem dX5_step_213 : decode cX5_step 213 = .ok (.getfield 11, 3) := by decide +kernel
theorem dX5_step_216 : decode cX5_step 216 = .ok (.aload_n 0, 1) := by decide +kernel
theorem dX5_step_217 : decode cX5_step 217 = .ok (.getfield 35, 3) := by decide +kernel
theorem dX5_step_220 : decode cX5_step 220 = .ok (.baload, 1) := by decide +kernel
theorem dX5_step_221 : decode cX5_step 221 = .ok (.bipush 97, 2) := by decide +kernel
theorem dX5_step_223 : decode cX5_step 223 = .ok (.if_icmp .lt 50, 3) := by decide +kernel
theorem dX5_step_226 : decode cX5_step 226 = .ok (.aload_n 0, 1) := by decide +kernel
theorem dX5_step_227 : decode cX5_step 227 = .ok (.getfield 11, 3) := by decide +kernel
theorem dX5_step_230 : decode cX5_step 230 = .ok (.aload_n 0, 1) := by decide +kernel
theorem dX5_step_231 : decode cX5_step 231 = .ok (.getfield 35, 3) := by decide +kernel
theorem dX5_step_234 : decode cX5_step 234 = .ok (.baload, 1) := by decide +kernel
theorem dX5_step_235 : decode cX5_step 235 = .ok (.bipush 122, 2) := by decide +kernel
theorem dX5_step_237 : decode cX5_step 237 = .ok (.if_icmp .gt 36, 3) := by decide +kernel
theorem dX5_step_240 : decode cX5_step 240 = .ok (.aload_n 0, 1) := by decide +kernel
theorem dX5_step_241 : decode cX5_step 241 = .ok (.dup, 1) := by decide +kernel
theorem dX5_step_242 : decode cX5_step 242 = .ok (.getfield 35, 3) := by decide +kernel
theorem dX5_step_245 : decode cX5_step 245 = .ok (.iconst 1, 1) := by decide +kernel
theorem dX5_step_246 : decode cX5_step 246 = .ok (.iadd, 1) := by decide +kernel
theorem dX5_step_247 : decode cX5_step 247 = .ok (.putfield 35, 3) := by decide +kernel
theorem dX5_step_250 : decode cX5_step 250 = .ok (.goto (-49), 3) := by decide +kernel
theorem dX5_step_253 : decode cX5_step 253 = .ok (.aload_n 0, 1) := by decide +kernel
theorem dX5_step_254 : decode cX5_step 254 = .ok (.iconst 3, 1) := by decide +kernel
theorem dX5_step_255 : decode cX5_step 255 = .ok (.putfield 73, 3) := by decide +kernel
theorem dX5_step_258 : decode cX5_step 258 = .ok (.aload_n 0, 1) := by decide +kernel
theorem dX5_step_259 : decode cX5_step 259 = .ok (.iload_n 1, 1) := by decide +kernel
theorem dX5_step_260 : decode cX5_step 260 = .ok (.putfield 175, 3) := by decide +kernel
theorem dX5_step_263 : decode cX5_step 263 = .ok (.aload_n 0, 1) := by decide +kernel
theorem dX5_step_264 : decode cX5_step 264 = .ok (.dup, 1) := by decide +kernel
theorem dX5_step_265 : decode cX5_step 265 = .ok (.getfield 35, 3) := by decide +kernel
theorem dX5_step_268 : decode cX5_step 268 = .ok (.iconst 1, 1) := by decide +kernel
theorem dX5_step_269 : decode cX5_step 269 = .ok (.iadd, 1) := by decide +kernel
theorem dX5_step_270 : decode cX5_step 270 = .ok (.putfield 35, 3) := by decide +kernel
theorem dX5_step_273 : decode cX5_step 273 = .ok (.return_, 1) := by decide +kernel
theorem dX6_init_0 : decode cX6_init 0 = .ok (.aload_n 0, 1) := by decide +kernel
theorem dX6_init_1 : decode cX6_init 1 = .ok (.invokespecial 1, 3) := by decide +kernel
theorem dX6_init_4 : decode cX6_init 4 = .ok (.aload_n 0, 1) := by decide +kernel
theorem dX6_init_5 : decode cX6_init 5 = .ok (.bipush 8, 2) := by decide +kernel
theorem dX6_init_7 : decode cX6_init 7 = .ok (.newarray .boolean, 2) := by decide +kernel
theorem dX6_init_9 : decode cX6_init 9 = .ok (.putfield 9, 3) := by decide +kernel
theorem dX6_init_12 : decode cX6_init 12 = .ok (.aload_n 0, 1) := by decide +kernel
theorem dX6_init_13 : decode cX6_init 13 = .ok (.bipush 8, 2) := by decide +kernel
theorem dX6_init_15 : decode cX6_init 15 = .ok (.newarray .int, 2) := by decide +kernel
theorem dX6_init_17 : decode cX6_init 17 = .ok (.putfield 13, 3) := by decide +kernel
theorem dX6_init_20 : decode cX6_init 20 = .ok (.aload_n 0, 1) := by decide +kernel
theorem dX6_init_21 : decode cX6_init 21 = .ok (.bipush 8, 2) := by decide +kernel
theorem dX6_init_23 : decode cX6_init 23 = .ok (.newarray .int, 2) := by decide +kernel
theorem dX6_init_25 : decode cX6_init 25 = .ok (.putfield 17, 3) := by decide +kernel
theorem dX6_init_28 : decode cX6_init 28 = .ok (.aload_n 0, 1) := by decide +kernel
theorem dX6_init_29 : decode cX6_init 29 = .ok (.bipush 64, 2) := by decide +kernel
theorem dX6_init_31 : decode cX6_init 31 = .ok (.newarray .int, 2) := by decide +kernel
theorem dX6_init_33 : decode cX6_init 33 = .ok (.putfield 20, 3) := by decide +kernel
theorem dX6_init_36 : decode cX6_init 36 = .ok (.aload_n 0, 1) := by decide +kernel
theorem dX6_init_37 : decode cX6_init 37 = .ok (.iload_n 1, 1) := by decide +kernel
theorem dX6_init_38 : decode cX6_init 38 = .ok (.putfield 23, 3) := by decide +kernel
theorem dX6_init_41 : decode cX6_init 41 = .ok (.return_, 1) := by decide +kernel
theorem dX6_fillIn_0 : decode cX6_fillIn 0 = .ok (.aload_n 0, 1) := by decide +kernel
theorem dX6_fillIn_1 : decode cX6_fillIn 1 = .ok (.getfield 27, 3) := by decide +kernel
theorem dX6_fillIn_4 : decode cX6_fillIn 4 = .ok (.ifCond .ne 11, 3) := by decide +kernel
theorem dX6_fillIn_7 : decode cX6_fillIn 7 = .ok (.aload_n 0, 1) := by decide +kernel
theorem dX6_fillIn_8 : decode cX6_fillIn 8 = .ok (.aload_n 0, 1) := by decide +kernel
theorem dX6_fillIn_9 : decode cX6_fillIn 9 = .ok (.getfield 23, 3) := by decide +kernel
theorem dX6_fillIn_12 : decode cX6_fillIn 12 = .ok (.putfield 27, 3) := by decide +kernel
theorem dX6_fillIn_15 : decode cX6_fillIn 15 = .ok (.aload_n 0, 1) := by decide +kernel
theorem dX6_fillIn_16 : decode cX6_fillIn 16 = .ok (.getfield 30, 3) := by decide +kernel
theorem dX6_fillIn_19 : decode cX6_fillIn 19 = .ok (.ifCond .ne 9, 3) := by decide +kernel
theorem dX6_fillIn_22 : decode cX6_fillIn 22 = .ok (.aload_n 0, 1) := by decide +kernel
theorem dX6_fillIn_23 : decode cX6_fillIn 23 = .ok (.bipush 50, 2) := by decide +kernel
theorem dX6_fillIn_25 : decode cX6_fillIn 25 = .ok (.putfield 30, 3) := by decide +kernel
theorem dX6_fillIn_28 : decode cX6_fillIn 28 = .ok (.return_, 1) := by decide +kernel
theorem dX6_setClock_0 : decode cX6_setClock 0 = .ok (.aload_n 0, 1) := by decide +kernel
theorem dX6_setClock_1 : decode cX6_setClock 1 = .ok (.getfield 9, 3) := by decide +kernel
theorem dX6_setClock_4 : decode cX6_setClock 4 = .ok (.iload_n 1, 1) := by decide +kernel
theorem dX6_setClock_5 : decode cX6_setClock 5 = .ok (.bipush 7, 2) := by decide +kernel
theorem dX6_setClock_7 : decode cX6_setClock 7 = .ok (.iand, 1) := by decide +kernel
theorem dX6_setClock_8 : decode cX6_setClock 8 = .ok (.iconst 1, 1) := by decide +kernel
theorem dX6_setClock_9 : decode cX6_setClock 9 = .ok (.bastore, 1) := by decide +kernel
theorem dX6_setClock_10 : decode cX6_setClock 10 = .ok (.aload_n 0, 1) := by decide +kernel
theorem dX6_setClock_11 : decode cX6_setClock 11 = .ok (.getfield 13, 3) := by decide +kernel
theorem dX6_setClock_14 : decode cX6_setClock 14 = .ok (.iload_n 1, 1) := by decide +kernel
theorem dX6_setClock_15 : decode cX6_setClock 15 = .ok (.bipush 7, 2) := by decide +kernel
theorem dX6_setClock_17 : decode cX6_setClock 17 = .ok (.iand, 1) := by decide +kernel
theorem dX6_setClock_18 : decode cX6_setClock 18 = .ok (.iload_n 2, 1) := by decide +kernel
theorem dX6_setClock_19 : decode cX6_setClock 19 = .ok (.iastore, 1) := by decide +kernel
theorem dX6_setClock_20 : decode cX6_setClock 20 = .ok (.aload_n 0, 1) := by decide +kernel
theorem dX6_setClock_21 : decode cX6_setClock 21 = .ok (.getfield 17, 3) := by decide +kernel
theorem dX6_setClock_24 : decode cX6_setClock 24 = .ok (.iload_n 1, 1) := by decide +kernel
theorem dX6_setClock_25 : decode cX6_setClock 25 = .ok (.bipush 7, 2) := by decide +kernel
theorem dX6_setClock_27 : decode cX6_setClock 27 = .ok (.iand, 1) := by decide +kernel
theorem dX6_setClock_28 : decode cX6_setClock 28 = .ok (.iload_n 3, 1) := by decide +kernel
theorem dX6_setClock_29 : decode cX6_setClock 29 = .ok (.iastore, 1) := by decide +kernel
theorem dX6_setClock_30 : decode cX6_setClock 30 = .ok (.return_, 1) := by decide +kernel
theorem dX6_hasClock_0 : decode cX6_hasClock 0 = .ok (.aload_n 0, 1) := by decide +kernel
theorem dX6_hasClock_1 : decode cX6_hasClock 1 = .ok (.getfield 9, 3) := by decide +kernel
theorem dX6_hasClock_4 : decode cX6_hasClock 4 = .ok (.iload_n 1, 1) := by decide +kernel
theorem dX6_hasClock_5 : decode cX6_hasClock 5 = .ok (.bipush 7, 2) := by decide +kernel
theorem dX6_hasClock_7 : decode cX6_hasClock 7 = .ok (.iand, 1) := by decide +kernel
theorem dX6_hasClock_8 : decode cX6_hasClock 8 = .ok (.baload, 1) := by decide +kernel
theorem dX6_hasClock_9 : decode cX6_hasClock 9 = .ok (.ireturn, 1) := by decide +kernel
theorem dX6_setDelay_0 : decode cX6_setDelay 0 = .ok (.aload_n 0, 1) := by decide +kernel
theorem dX6_setDelay_1 : decode cX6_setDelay 1 = .ok (.getfield 20, 3) := by decide +kernel
theorem dX6_setDelay_4 : decode cX6_setDelay 4 = .ok (.iload_n 1, 1) := by decide +kernel
theorem dX6_setDelay_5 : decode cX6_setDelay 5 = .ok (.iload_n 2, 1) := by decide +kernel
theorem dX6_setDelay_6 : decode cX6_setDelay 6 = .ok (.invokestatic 33, 3) := by decide +kernel
theorem dX6_setDelay_9 : decode cX6_setDelay 9 = .ok (.iload_n 3, 1) := by decide +kernel
theorem dX6_setDelay_10 : decode cX6_setDelay 10 = .ok (.iastore, 1) := by decide +kernel
theorem dX6_setDelay_11 : decode cX6_setDelay 11 = .ok (.return_, 1) := by decide +kernel
theorem dX6_delayOf_0 : decode cX6_delayOf 0 = .ok (.aload_n 0, 1) := by decide +kernel
theorem dX6_delayOf_1 : decode cX6_delayOf 1 = .ok (.getfield 20, 3) := by decide +kernel
theorem dX6_delayOf_4 : decode cX6_delayOf 4 = .ok (.iload_n 1, 1) := by decide +kernel
theorem dX6_delayOf_5 : decode cX6_delayOf 5 = .ok (.iload_n 2, 1) := by decide +kernel
theorem dX6_delayOf_6 : decode cX6_delayOf 6 = .ok (.invokestatic 33, 3) := by decide +kernel
theorem dX6_delayOf_9 : decode cX6_delayOf 9 = .ok (.iaload, 1) := by decide +kernel
theorem dX6_delayOf_10 : decode cX6_delayOf 10 = .ok (.ireturn, 1) := by decide +kernel
theorem dX6_clock_0 : decode cX6_clock 0 = .ok (.iload_n 2, 1) := by decide +kernel
theorem dX6_clock_1 : decode cX6_clock 1 = .ok (.aload_n 0, 1) := by decide +kernel
theorem dX6_clock_2 : decode cX6_clock 2 = .ok (.getfield 13, 3) := by decide +kernel
theorem dX6_clock_5 : decode cX6_clock 5 = .ok (.iload_n 1, 1) := by decide +kernel
theorem dX6_clock_6 : decode cX6_clock 6 = .ok (.bipush 7, 2) := by decide +kernel
theorem dX6_clock_8 : decode cX6_clock 8 = .ok (.iand, 1) := by decide +kernel
theorem dX6_clock_9 : decode cX6_clock 9 = .ok (.iaload, 1) := by decide +kernel
theorem dX6_clock_10 : decode cX6_clock 10 = .ok (.iadd, 1) := by decide +kernel
theorem dX6_clock_11 : decode cX6_clock 11 = .ok (.iload_n 2, 1) := by decide +kernel
theorem dX6_clock_12 : decode cX6_clock 12 = .ok (.aload_n 0, 1) := by decide +kernel
theorem dX6_clock_13 : decode cX6_clock 13 = .ok (.getfield 17, 3) := by decide +kernel
theorem dX6_clock_16 : decode cX6_clock 16 = .ok (.iload_n 1, 1) := by decide +kernel
theorem dX6_clock_17 : decode cX6_clock 17 = .ok (.bipush 7, 2) := by decide +kernel
theorem dX6_clock_19 : decode cX6_clock 19 = .ok (.iand, 1) := by decide +kernel
theorem dX6_clock_20 : decode cX6_clock 20 = .ok (.iaload, 1) := by decide +kernel
theorem dX6_clock_21 : decode cX6_clock 21 = .ok (.imul, 1) := by decide +kernel
theorem dX6_clock_22 : decode cX6_clock 22 = .ok (.sipush 1000, 3) := by decide +kernel
theorem dX6_clock_25 : decode cX6_clock 25 = .ok (.idiv, 1) := by decide +kernel
theorem dX6_clock_26 : decode cX6_clock 26 = .ok (.iadd, 1) := by decide +kernel
theorem dX6_clock_27 : decode cX6_clock 27 = .ok (.ireturn, 1) := by decide +kernel
theorem dX6_place_0 : decode cX6_place 0 = .ok (.iload_n 0, 1) := by decide +kernel
theorem dX6_place_1 : decode cX6_place 1 = .ok (.bipush 7, 2) := by decide +kernel
theorem dX6_place_3 : decode cX6_place 3 = .ok (.iand, 1) := by decide +kernel
theorem dX6_place_4 : decode cX6_place 4 = .ok (.bipush 8, 2) := by decide +kernel
theorem dX6_place_6 : decode cX6_place 6 = .ok (.imul, 1) := by decide +kernel
theorem dX6_place_7 : decode cX6_place 7 = .ok (.iload_n 1, 1) := by decide +kernel
theorem dX6_place_8 : decode cX6_place 8 = .ok (.bipush 7, 2) := by decide +kernel
theorem dX6_place_10 : decode cX6_place 10 = .ok (.iand, 1) := by decide +kernel
theorem dX6_place_11 : decode cX6_place 11 = .ok (.iadd, 1) := by decide +kernel
theorem dX6_place_12 : decode cX6_place 12 = .ok (.ireturn, 1) := by decide +kernel
theorem dX7_init_0 : decode cX7_init 0 = .ok (.aload_n 0, 1) := by decide +kernel
theorem dX7_init_1 : decode cX7_init 1 = .ok (.invokespecial 1, 3) := by decide +kernel
theorem dX7_init_4 : decode cX7_init 4 = .ok (.aload_n 0, 1) := by decide +kernel
theorem dX7_init_5 : decode cX7_init 5 = .ok (.bipush 8, 2) := by decide +kernel
theorem dX7_init_7 : decode cX7_init 7 = .ok (.anewarray 9, 3) := by decide +kernel
theorem dX7_init_10 : decode cX7_init 10 = .ok (.putfield 11, 3) := by decide +kernel
theorem dX7_init_13 : decode cX7_init 13 = .ok (.aload_n 0, 1) := by decide +kernel
theorem dX7_init_14 : decode cX7_init 14 = .ok (.new 17, 3) := by decide +kernel
theorem dX7_init_17 : decode cX7_init 17 = .ok (.dup, 1) := by decide +kernel
theorem dX7_init_18 : decode cX7_init 18 = .ok (.invokespecial 19, 3) := by decide +kernel
theorem dX7_init_21 : decode cX7_init 21 = .ok (.putfield 20, 3) := by decide +kernel
theorem dX7_init_24 : decode cX7_init 24 = .ok (.aload_n 0, 1) := by decide +kernel
theorem dX7_init_25 : decode cX7_init 25 = .ok (.new 24, 3) := by decide +kernel
theorem dX7_init_28 : decode cX7_init 28 = .ok (.dup, 1) := by decide +kernel
theorem dX7_init_29 : decode cX7_init 29 = .ok (.invokespecial 26, 3) := by decide +kernel
theorem dX7_init_32 : decode cX7_init 32 = .ok (.putfield 27, 3) := by decide +kernel
theorem dX7_init_35 : decode cX7_init 35 = .ok (.aload_n 0, 1) := by decide +kernel
theorem dX7_init_36 : decode cX7_init 36 = .ok (.new 31, 3) := by decide +kernel
theorem dX7_init_39 : decode cX7_init 39 = .ok (.dup, 1) := by decide +kernel
theorem dX7_init_40 : decode cX7_init 40 = .ok (.invokespecial 33, 3) := by decide +kernel
theorem dX7_init_43 : decode cX7_init 43 = .ok (.putfield 34, 3) := by decide +kernel
theorem dX7_init_46 : decode cX7_init 46 = .ok (.aload_n 0, 1) := by decide +kernel
theorem dX7_init_47 : decode cX7_init 47 = .ok (.new 31, 3) := by decide +kernel
theorem dX7_init_50 : decode cX7_init 50 = .ok (.dup, 1) := by decide +kernel
theorem dX7_init_51 : decode cX7_init 51 = .ok (.invokespecial 33, 3) := by decide +kernel
theorem dX7_init_54 : decode cX7_init 54 = .ok (.putfield 38, 3) := by decide +kernel
theorem dX7_init_57 : decode cX7_init 57 = .ok (.iconst 0, 1) := by decide +kernel
theorem dX7_init_58 : decode cX7_init 58 = .ok (.istore_n 1, 1) := by decide +kernel
theorem dX7_init_59 : decode cX7_init 59 = .ok (.iload_n 1, 1) := by decide +kernel
theorem dX7_init_60 : decode cX7_init 60 = .ok (.aload_n 0, 1) := by decide +kernel
theorem dX7_init_61 : decode cX7_init 61 = .ok (.getfield 11, 3) := by decide +kernel
theorem dX7_init_64 : decode cX7_init 64 = .ok (.arraylength, 1) := by decide +kernel
theorem dX7_init_65 : decode cX7_init 65 = .ok (.if_icmp .ge 22, 3) := by decide +kernel
theorem dX7_init_68 : decode cX7_init 68 = .ok (.aload_n 0, 1) := by decide +kernel
theorem dX7_init_69 : decode cX7_init 69 = .ok (.getfield 11, 3) := by decide +kernel
theorem dX7_init_72 : decode cX7_init 72 = .ok (.iload_n 1, 1) := by decide +kernel
theorem dX7_init_73 : decode cX7_init 73 = .ok (.new 9, 3) := by decide +kernel
theorem dX7_init_76 : decode cX7_init 76 = .ok (.dup, 1) := by decide +kernel
theorem dX7_init_77 : decode cX7_init 77 = .ok (.invokespecial 41, 3) := by decide +kernel
theorem dX7_init_80 : decode cX7_init 80 = .ok (.aastore, 1) := by decide +kernel
theorem dX7_init_81 : decode cX7_init 81 = .ok (.iinc 1 1, 3) := by decide +kernel
theorem dX7_init_84 : decode cX7_init 84 = .ok (.goto (-25), 3) := by decide +kernel
theorem dX7_init_87 : decode cX7_init 87 = .ok (.new 7, 3) := by decide +kernel
theorem dX7_init_90 : decode cX7_init 90 = .ok (.dup, 1) := by decide +kernel
theorem dX7_init_91 : decode cX7_init 91 = .ok (.iconst 1, 1) := by decide +kernel
theorem dX7_init_92 : decode cX7_init 92 = .ok (.invokespecial 42, 3) := by decide +kernel
theorem dX7_init_95 : decode cX7_init 95 = .ok (.astore_n 1, 1) := by decide +kernel
theorem dX7_init_96 : decode cX7_init 96 = .ok (.aload_n 1, 1) := by decide +kernel
theorem dX7_init_97 : decode cX7_init 97 = .ok (.invokevirtual 45, 3) := by decide +kernel
theorem dX7_init_100 : decode cX7_init 100 = .ok (.aload_n 0, 1) := by decide +kernel
theorem dX7_init_101 : decode cX7_init 101 = .ok (.aload_n 1, 1) := by decide +kernel
theorem dX7_init_102 : decode cX7_init 102 = .ok (.invokevirtual 48, 3) := by decide +kernel
theorem dX7_init_105 : decode cX7_init 105 = .ok (.return_, 1) := by decide +kernel
theorem dX7_begin_0 : decode cX7_begin 0 = .ok (.aload_n 0, 1) := by decide +kernel
theorem dX7_begin_1 : decode cX7_begin 1 = .ok (.aload_n 1, 1) := by decide +kernel
theorem dX7_begin_2 : decode cX7_begin 2 = .ok (.putfield 52, 3) := by decide +kernel
theorem dX7_begin_5 : decode cX7_begin 5 = .ok (.iconst 0, 1) := by decide +kernel
theorem dX7_begin_6 : decode cX7_begin 6 = .ok (.istore_n 2, 1) := by decide +kernel
theorem dX7_begin_7 : decode cX7_begin 7 = .ok (.iload_n 2, 1) := by decide +kernel
theorem dX7_begin_8 : decode cX7_begin 8 = .ok (.aload_n 0, 1) := by decide +kernel
theorem dX7_begin_9 : decode cX7_begin 9 = .ok (.getfield 11, 3) := by decide +kernel
theorem dX7_begin_12 : decode cX7_begin 12 = .ok (.arraylength, 1) := by decide +kernel
theorem dX7_begin_13 : decode cX7_begin 13 = .ok (.if_icmp .ge 18, 3) := by decide +kernel
theorem dX7_begin_16 : decode cX7_begin 16 = .ok (.aload_n 0, 1) := by decide +kernel
theorem dX7_begin_17 : decode cX7_begin 17 = .ok (.getfield 11, 3) := by decide +kernel
theorem dX7_begin_20 : decode cX7_begin 20 = .ok (.iload_n 2, 1) := by decide +kernel
theorem dX7_begin_21 : decode cX7_begin 21 = .ok (.aaload, 1) := by decide +kernel
theorem dX7_begin_22 : decode cX7_begin 22 = .ok (.invokevirtual 56, 3) := by decide +kernel
theorem dX7_begin_25 : decode cX7_begin 25 = .ok (.iinc 2 1, 3) := by decide +kernel
theorem dX7_begin_28 : decode cX7_begin 28 = .ok (.goto (-21), 3) := by decide +kernel
theorem dX7_begin_31 : decode cX7_begin 31 = .ok (.aload_n 0, 1) := by decide +kernel
theorem dX7_begin_32 : decode cX7_begin 32 = .ok (.getfield 20, 3) := by decide +kernel
theorem dX7_begin_35 : decode cX7_begin 35 = .ok (.invokevirtual 58, 3) := by decide +kernel
theorem dX7_begin_38 : decode cX7_begin 38 = .ok (.aload_n 0, 1) := by decide +kernel
theorem dX7_begin_39 : decode cX7_begin 39 = .ok (.getfield 27, 3) := by decide +kernel
theorem dX7_begin_42 : decode cX7_begin 42 = .ok (.invokevirtual 59, 3) := by decide +kernel
theorem dX7_begin_45 : decode cX7_begin 45 = .ok (.aload_n 0, 1) := by decide +kernel
theorem dX7_begin_46 : decode cX7_begin 46 = .ok (.lconst 0, 1) := by decide +kernel
theorem dX7_begin_47 : decode cX7_begin 47 = .ok (.putfield 60, 3) := by decide +kernel
theorem dX7_begin_50 : decode cX7_begin 50 = .ok (.aload_n 0, 1) := by decide +kernel
theorem dX7_begin_51 : decode cX7_begin 51 = .ok (.iconst 0, 1) := by decide +kernel
theorem dX7_begin_52 : decode cX7_begin 52 = .ok (.putfield 64, 3) := by decide +kernel
theorem dX7_begin_55 : decode cX7_begin 55 = .ok (.aload_n 0, 1) := by decide +kernel
theorem dX7_begin_56 : decode cX7_begin 56 = .ok (.iconst 0, 1) := by decide +kernel
theorem dX7_begin_57 : decode cX7_begin 57 = .ok (.putfield 68, 3) := by decide +kernel
theorem dX7_begin_60 : decode cX7_begin 60 = .ok (.aload_n 0, 1) := by decide +kernel
theorem dX7_begin_61 : decode cX7_begin 61 = .ok (.iconst 0, 1) := by decide +kernel
theorem dX7_begin_62 : decode cX7_begin 62 = .ok (.putfield 71, 3) := by decide +kernel
theorem dX7_begin_65 : decode cX7_begin 65 = .ok (.aload_n 0, 1) := by decide +kernel
theorem dX7_begin_66 : decode cX7_begin 66 = .ok (.iconst 0, 1) := by decide +kernel
theorem dX7_begin_67 : decode cX7_begin 67 = .ok (.putfield 74, 3) := by decide +kernel
theorem dX7_begin_70 : decode cX7_begin 70 = .ok (.aload_n 0, 1) := by decide +kernel
theorem dX7_begin_71 : decode cX7_begin 71 = .ok (.iconst 0, 1) := by decide +kernel
theorem dX7_begin_72 : decode cX7_begin 72 = .ok (.putfield 77, 3) := by decide +kernel
