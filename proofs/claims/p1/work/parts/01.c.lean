theorem dX1_init_0 : decode cX1_init 0 = .ok (.aload_n 0, 1) := by decide +kernel
theorem dX1_init_1 : decode cX1_init 1 = .ok (.invokespecial 1, 3) := by decide +kernel
theorem dX1_init_4 : decode cX1_init 4 = .ok (.return_, 1) := by decide +kernel
theorem dX2_init_0 : decode cX2_init 0 = .ok (.aload_n 0, 1) := by decide +kernel
theorem dX2_init_1 : decode cX2_init 1 = .ok (.invokespecial 1, 3) := by decide +kernel
theorem dX2_init_4 : decode cX2_init 4 = .ok (.aload_n 0, 1) := by decide +kernel
theorem dX2_init_5 : decode cX2_init 5 = .ok (.bipush 16, 2) := by decide +kernel
theorem dX2_init_7 : decode cX2_init 7 = .ok (.bipush 14, 2) := by decide +kernel
theorem dX2_init_9 : decode cX2_init 9 = .ok (.multianewarray 9 2, 4) := by decide +kernel
theorem dX2_init_13 : decode cX2_init 13 = .ok (.putfield 11, 3) := by decide +kernel
theorem dX2_init_16 : decode cX2_init 16 = .ok (.aload_n 0, 1) := by decide +kernel
theorem dX2_init_17 : decode cX2_init 17 = .ok (.bipush 16, 2) := by decide +kernel
theorem dX2_init_19 : decode cX2_init 19 = .ok (.newarray .int, 2) := by decide +kernel
theorem dX2_init_21 : decode cX2_init 21 = .ok (.putfield 14, 3) := by decide +kernel
theorem dX2_init_24 : decode cX2_init 24 = .ok (.return_, 1) := by decide +kernel
theorem dX2_begin_0 : decode cX2_begin 0 = .ok (.aload_n 0, 1) := by decide +kernel
theorem dX2_begin_1 : decode cX2_begin 1 = .ok (.getfield 14, 3) := by decide +kernel
theorem dX2_begin_4 : decode cX2_begin 4 = .ok (.iconst 0, 1) := by decide +kernel
theorem dX2_begin_5 : decode cX2_begin 5 = .ok (.invokestatic 18, 3) := by decide +kernel
theorem dX2_begin_8 : decode cX2_begin 8 = .ok (.aload_n 0, 1) := by decide +kernel
theorem dX2_begin_9 : decode cX2_begin 9 = .ok (.iconst 0, 1) := by decide +kernel
theorem dX2_begin_10 : decode cX2_begin 10 = .ok (.putfield 24, 3) := by decide +kernel
theorem dX2_begin_13 : decode cX2_begin 13 = .ok (.return_, 1) := by decide +kernel
theorem dX2_copyFrom_0 : decode cX2_copyFrom 0 = .ok (.iconst 0, 1) := by decide +kernel
theorem dX2_copyFrom_1 : decode cX2_copyFrom 1 = .ok (.istore_n 2, 1) := by decide +kernel
theorem dX2_copyFrom_2 : decode cX2_copyFrom 2 = .ok (.iload_n 2, 1) := by decide +kernel
theorem dX2_copyFrom_3 : decode cX2_copyFrom 3 = .ok (.bipush 16, 2) := by decide +kernel
theorem dX2_copyFrom_5 : decode cX2_copyFrom 5 = .ok (.if_icmp .ge 80, 3) := by decide +kernel
theorem dX2_copyFrom_8 : decode cX2_copyFrom 8 = .ok (.aload_n 1, 1) := by decide +kernel
theorem dX2_copyFrom_9 : decode cX2_copyFrom 9 = .ok (.getfield 11, 3) := by decide +kernel
theorem dX2_copyFrom_12 : decode cX2_copyFrom 12 = .ok (.iload_n 2, 1) := by decide +kernel
theorem dX2_copyFrom_13 : decode cX2_copyFrom 13 = .ok (.aaload, 1) := by decide +kernel
theorem dX2_copyFrom_14 : decode cX2_copyFrom 14 = .ok (.astore_n 3, 1) := by decide +kernel
theorem dX2_copyFrom_15 : decode cX2_copyFrom 15 = .ok (.aload_n 1, 1) := by decide +kernel
theorem dX2_copyFrom_16 : decode cX2_copyFrom 16 = .ok (.getfield 14, 3) := by decide +kernel
theorem dX2_copyFrom_19 : decode cX2_copyFrom 19 = .ok (.iload_n 2, 1) := by decide +kernel
theorem dX2_copyFrom_20 : decode cX2_copyFrom 20 = .ok (.iaload, 1) := by decide +kernel
theorem dX2_copyFrom_21 : decode cX2_copyFrom 21 = .ok (.bipush 7, 2) := by decide +kernel
theorem dX2_copyFrom_23 : decode cX2_copyFrom 23 = .ok (.imul, 1) := by decide +kernel
theorem dX2_copyFrom_24 : decode cX2_copyFrom 24 = .ok (.aload_n 3, 1) := by decide +kernel
theorem dX2_copyFrom_25 : decode cX2_copyFrom 25 = .ok (.arraylength, 1) := by decide +kernel
theorem dX2_copyFrom_26 : decode cX2_copyFrom 26 = .ok (.invokestatic 28, 3) := by decide +kernel
theorem dX2_copyFrom_29 : decode cX2_copyFrom 29 = .ok (.istore 4, 2) := by decide +kernel
theorem dX2_copyFrom_31 : decode cX2_copyFrom 31 = .ok (.iload 4, 2) := by decide +kernel
theorem dX2_copyFrom_33 : decode cX2_copyFrom 33 = .ok (.aload_n 0, 1) := by decide +kernel
theorem dX2_copyFrom_34 : decode cX2_copyFrom 34 = .ok (.getfield 11, 3) := by decide +kernel
theorem dX2_copyFrom_37 : decode cX2_copyFrom 37 = .ok (.iload_n 2, 1) := by decide +kernel
theorem dX2_copyFrom_38 : decode cX2_copyFrom 38 = .ok (.aaload, 1) := by decide +kernel
theorem dX2_copyFrom_39 : decode cX2_copyFrom 39 = .ok (.arraylength, 1) := by decide +kernel
theorem dX2_copyFrom_40 : decode cX2_copyFrom 40 = .ok (.if_icmp .le 13, 3) := by decide +kernel
theorem dX2_copyFrom_53 : decode cX2_copyFrom 53 = .ok (.aload_n 3, 1) := by decide +kernel
theorem dX2_copyFrom_54 : decode cX2_copyFrom 54 = .ok (.iconst 0, 1) := by decide +kernel
theorem dX2_copyFrom_55 : decode cX2_copyFrom 55 = .ok (.aload_n 0, 1) := by decide +kernel
theorem dX2_copyFrom_56 : decode cX2_copyFrom 56 = .ok (.getfield 11, 3) := by decide +kernel
theorem dX2_copyFrom_59 : decode cX2_copyFrom 59 = .ok (.iload_n 2, 1) := by decide +kernel
theorem dX2_copyFrom_60 : decode cX2_copyFrom 60 = .ok (.aaload, 1) := by decide +kernel
theorem dX2_copyFrom_61 : decode cX2_copyFrom 61 = .ok (.iconst 0, 1) := by decide +kernel
theorem dX2_copyFrom_62 : decode cX2_copyFrom 62 = .ok (.iload 4, 2) := by decide +kernel
theorem dX2_copyFrom_64 : decode cX2_copyFrom 64 = .ok (.invokestatic 34, 3) := by decide +kernel
theorem dX2_copyFrom_67 : decode cX2_copyFrom 67 = .ok (.aload_n 0, 1) := by decide +kernel
theorem dX2_copyFrom_68 : decode cX2_copyFrom 68 = .ok (.getfield 14, 3) := by decide +kernel
theorem dX2_copyFrom_71 : decode cX2_copyFrom 71 = .ok (.iload_n 2, 1) := by decide +kernel
theorem dX2_copyFrom_72 : decode cX2_copyFrom 72 = .ok (.aload_n 1, 1) := by decide +kernel
theorem dX2_copyFrom_73 : decode cX2_copyFrom 73 = .ok (.getfield 14, 3) := by decide +kernel
theorem dX2_copyFrom_76 : decode cX2_copyFrom 76 = .ok (.iload_n 2, 1) := by decide +kernel
theorem dX2_copyFrom_77 : decode cX2_copyFrom 77 = .ok (.iaload, 1) := by decide +kernel
theorem dX2_copyFrom_78 : decode cX2_copyFrom 78 = .ok (.iastore, 1) := by decide +kernel
theorem dX2_copyFrom_79 : decode cX2_copyFrom 79 = .ok (.iinc 2 1, 3) := by decide +kernel
theorem dX2_copyFrom_82 : decode cX2_copyFrom 82 = .ok (.goto (-80), 3) := by decide +kernel
theorem dX2_copyFrom_85 : decode cX2_copyFrom 85 = .ok (.aload_n 0, 1) := by decide +kernel
theorem dX2_copyFrom_86 : decode cX2_copyFrom 86 = .ok (.aload_n 1, 1) := by decide +kernel
theorem dX2_copyFrom_87 : decode cX2_copyFrom 87 = .ok (.getfield 24, 3) := by decide +kernel
theorem dX2_copyFrom_90 : decode cX2_copyFrom 90 = .ok (.putfield 24, 3) := by decide +kernel
theorem dX2_copyFrom_93 : decode cX2_copyFrom 93 = .ok (.return_, 1) := by decide +kernel
theorem dX2_countAt_0 : decode cX2_countAt 0 = .ok (.aload_n 0, 1) := by decide +kernel
theorem dX2_countAt_1 : decode cX2_countAt 1 = .ok (.getfield 14, 3) := by decide +kernel
theorem dX2_countAt_4 : decode cX2_countAt 4 = .ok (.iload_n 1, 1) := by decide +kernel
theorem dX2_countAt_5 : decode cX2_countAt 5 = .ok (.bipush 15, 2) := by decide +kernel
theorem dX2_countAt_7 : decode cX2_countAt 7 = .ok (.iand, 1) := by decide +kernel
theorem dX2_countAt_8 : decode cX2_countAt 8 = .ok (.iaload, 1) := by decide +kernel
theorem dX2_countAt_9 : decode cX2_countAt 9 = .ok (.ireturn, 1) := by decide +kernel
theorem dX2_clear_0 : decode cX2_clear 0 = .ok (.aload_n 0, 1) := by decide +kernel
theorem dX2_clear_1 : decode cX2_clear 1 = .ok (.dup, 1) := by decide +kernel
theorem dX2_clear_2 : decode cX2_clear 2 = .ok (.getfield 24, 3) := by decide +kernel
theorem dX2_clear_5 : decode cX2_clear 5 = .ok (.aload_n 0, 1) := by decide +kernel
theorem dX2_clear_6 : decode cX2_clear 6 = .ok (.getfield 14, 3) := by decide +kernel
theorem dX2_clear_9 : decode cX2_clear 9 = .ok (.iload_n 1, 1) := by decide +kernel
theorem dX2_clear_10 : decode cX2_clear 10 = .ok (.bipush 15, 2) := by decide +kernel
theorem dX2_clear_12 : decode cX2_clear 12 = .ok (.iand, 1) := by decide +kernel
theorem dX2_clear_13 : decode cX2_clear 13 = .ok (.iaload, 1) := by decide +kernel
theorem dX2_clear_14 : decode cX2_clear 14 = .ok (.isub, 1) := by decide +kernel
theorem dX2_clear_15 : decode cX2_clear 15 = .ok (.putfield 24, 3) := by decide +kernel
theorem dX2_clear_18 : decode cX2_clear 18 = .ok (.aload_n 0, 1) := by decide +kernel
theorem dX2_clear_19 : decode cX2_clear 19 = .ok (.getfield 14, 3) := by decide +kernel
theorem dX2_clear_22 : decode cX2_clear 22 = .ok (.iload_n 1, 1) := by decide +kernel
theorem dX2_clear_23 : decode cX2_clear 23 = .ok (.bipush 15, 2) := by decide +kernel
theorem dX2_clear_25 : decode cX2_clear 25 = .ok (.iand, 1) := by decide +kernel
theorem dX2_clear_26 : decode cX2_clear 26 = .ok (.iconst 0, 1) := by decide +kernel
theorem dX2_clear_27 : decode cX2_clear 27 = .ok (.iastore, 1) := by decide +kernel
theorem dX2_clear_28 : decode cX2_clear 28 = .ok (.return_, 1) := by decide +kernel
theorem dX3_init_0 : decode cX3_init 0 = .ok (.aload_n 0, 1) := by decide +kernel
theorem dX3_init_1 : decode cX3_init 1 = .ok (.invokespecial 1, 3) := by decide +kernel
theorem dX3_init_4 : decode cX3_init 4 = .ok (.return_, 1) := by decide +kernel
theorem dX3_begin_0 : decode cX3_begin 0 = .ok (.aload_n 0, 1) := by decide +kernel
theorem dX3_begin_1 : decode cX3_begin 1 = .ok (.iconst 1, 1) := by decide +kernel
theorem dX3_begin_2 : decode cX3_begin 2 = .ok (.putfield 7, 3) := by decide +kernel
theorem dX3_begin_5 : decode cX3_begin 5 = .ok (.aload_n 0, 1) := by decide +kernel
theorem dX3_begin_6 : decode cX3_begin 6 = .ok (.iconst 0, 1) := by decide +kernel
theorem dX3_begin_7 : decode cX3_begin 7 = .ok (.putfield 13, 3) := by decide +kernel
theorem dX3_begin_10 : decode cX3_begin 10 = .ok (.aload_n 0, 1) := by decide +kernel
theorem dX3_begin_11 : decode cX3_begin 11 = .ok (.iconst 0, 1) := by decide +kernel
theorem dX3_begin_12 : decode cX3_begin 12 = .ok (.putfield 17, 3) := by decide +kernel
theorem dX3_begin_15 : decode cX3_begin 15 = .ok (.aload_n 0, 1) := by decide +kernel
theorem dX3_begin_16 : decode cX3_begin 16 = .ok (.invokevirtual 20, 3) := by decide +kernel
theorem dX3_begin_19 : decode cX3_begin 19 = .ok (.aload_n 0, 1) := by decide +kernel
theorem dX3_begin_20 : decode cX3_begin 20 = .ok (.iconst 0, 1) := by decide +kernel
theorem dX3_begin_21 : decode cX3_begin 21 = .ok (.putfield 23, 3) := by decide +kernel
theorem dX3_begin_24 : decode cX3_begin 24 = .ok (.aload_n 0, 1) := by decide +kernel
theorem dX3_begin_25 : decode cX3_begin 25 = .ok (.iconst 0, 1) := by decide +kernel
theorem dX3_begin_26 : decode cX3_begin 26 = .ok (.putfield 26, 3) := by decide +kernel
theorem dX3_begin_29 : decode cX3_begin 29 = .ok (.aload_n 0, 1) := by decide +kernel
theorem dX3_begin_30 : decode cX3_begin 30 = .ok (.iconst (-1), 1) := by decide +kernel
theorem dX3_begin_31 : decode cX3_begin 31 = .ok (.putfield 29, 3) := by decide +kernel
theorem dX3_begin_34 : decode cX3_begin 34 = .ok (.return_, 1) := by decide +kernel
theorem dX3_copyFrom_0 : decode cX3_copyFrom 0 = .ok (.aload_n 0, 1) := by decide +kernel
theorem dX3_copyFrom_1 : decode cX3_copyFrom 1 = .ok (.aload_n 1, 1) := by decide +kernel
theorem dX3_copyFrom_2 : decode cX3_copyFrom 2 = .ok (.getfield 7, 3) := by decide +kernel
theorem dX3_copyFrom_5 : decode cX3_copyFrom 5 = .ok (.putfield 7, 3) := by decide +kernel
theorem dX3_copyFrom_8 : decode cX3_copyFrom 8 = .ok (.aload_n 0, 1) := by decide +kernel
theorem dX3_copyFrom_9 : decode cX3_copyFrom 9 = .ok (.aload_n 1, 1) := by decide +kernel
theorem dX3_copyFrom_10 : decode cX3_copyFrom 10 = .ok (.getfield 13, 3) := by decide +kernel
theorem dX3_copyFrom_13 : decode cX3_copyFrom 13 = .ok (.putfield 13, 3) := by decide +kernel
theorem dX3_copyFrom_16 : decode cX3_copyFrom 16 = .ok (.aload_n 0, 1) := by decide +kernel
theorem dX3_copyFrom_17 : decode cX3_copyFrom 17 = .ok (.aload_n 1, 1) := by decide +kernel
theorem dX3_copyFrom_18 : decode cX3_copyFrom 18 = .ok (.getfield 17, 3) := by decide +kernel
theorem dX3_copyFrom_21 : decode cX3_copyFrom 21 = .ok (.putfield 17, 3) := by decide +kernel
theorem dX3_copyFrom_24 : decode cX3_copyFrom 24 = .ok (.aload_n 0, 1) := by decide +kernel
theorem dX3_copyFrom_25 : decode cX3_copyFrom 25 = .ok (.aload_n 1, 1) := by decide +kernel
theorem dX3_copyFrom_26 : decode cX3_copyFrom 26 = .ok (.getfield 32, 3) := by decide +kernel
theorem dX3_copyFrom_29 : decode cX3_copyFrom 29 = .ok (.putfield 32, 3) := by decide +kernel
theorem dX3_copyFrom_32 : decode cX3_copyFrom 32 = .ok (.aload_n 0, 1) := by decide +kernel
theorem dX3_copyFrom_33 : decode cX3_copyFrom 33 = .ok (.aload_n 1, 1) := by decide +kernel
theorem dX3_copyFrom_34 : decode cX3_copyFrom 34 = .ok (.getfield 35, 3) := by decide +kernel
theorem dX3_copyFrom_37 : decode cX3_copyFrom 37 = .ok (.putfield 35, 3) := by decide +kernel
theorem dX3_copyFrom_40 : decode cX3_copyFrom 40 = .ok (.aload_n 0, 1) := by decide +kernel
theorem dX3_copyFrom_41 : decode cX3_copyFrom 41 = .ok (.aload_n 1, 1) := by decide +kernel
theorem dX3_copyFrom_42 : decode cX3_copyFrom 42 = .ok (.getfield 38, 3) := by decide +kernel
theorem dX3_copyFrom_45 : decode cX3_copyFrom 45 = .ok (.putfield 38, 3) := by decide +kernel
theorem dX3_copyFrom_48 : decode cX3_copyFrom 48 = .ok (.aload_n 0, 1) := by decide +kernel
theorem dX3_copyFrom_49 : decode cX3_copyFrom 49 = .ok (.aload_n 1, 1) := by decide +kernel
theorem dX3_copyFrom_50 : decode cX3_copyFrom 50 = .ok (.getfield 41, 3) := by decide +kernel
theorem dX3_copyFrom_53 : decode cX3_copyFrom 53 = .ok (.putfield 41, 3) := by decide +kernel
theorem dX3_copyFrom_56 : decode cX3_copyFrom 56 = .ok (.aload_n 0, 1) := by decide +kernel
theorem dX3_copyFrom_57 : decode cX3_copyFrom 57 = .ok (.aload_n 1, 1) := by decide +kernel
theorem dX3_copyFrom_58 : decode cX3_copyFrom 58 = .ok (.getfield 23, 3) := by decide +kernel
theorem dX3_copyFrom_61 : decode cX3_copyFrom 61 = .ok (.putfield 23, 3) := by decide +kernel
theorem dX3_copyFrom_64 : decode cX3_copyFrom 64 = .ok (.aload_n 0, 1) := by decide +kernel
theorem dX3_copyFrom_65 : decode cX3_copyFrom 65 = .ok (.aload_n 1, 1) := by decide +kernel
theorem dX3_copyFrom_66 : decode cX3_copyFrom 66 = .ok (.getfield 26, 3) := by decide +kernel
theorem dX3_copyFrom_69 : decode cX3_copyFrom 69 = .ok (.putfield 26, 3) := by decide +kernel
theorem dX3_copyFrom_72 : decode cX3_copyFrom 72 = .ok (.aload_n 0, 1) := by decide +kernel
theorem dX3_copyFrom_73 : decode cX3_copyFrom 73 = .ok (.aload_n 1, 1) := by decide +kernel
theorem dX3_copyFrom_74 : decode cX3_copyFrom 74 = .ok (.getfield 29, 3) := by decide +kernel
theorem dX3_copyFrom_77 : decode cX3_copyFrom 77 = .ok (.putfield 29, 3) := by decide +kernel
theorem dX3_copyFrom_80 : decode cX3_copyFrom 80 = .ok (.return_, 1) := by decide +kernel
theorem dX3_turn_0 : decode cX3_turn 0 = .ok (.aload_n 0, 1) := by decide +kernel
theorem dX3_turn_1 : decode cX3_turn 1 = .ok (.getfield 7, 3) := by decide +kernel
theorem dX3_turn_4 : decode cX3_turn 4 = .ok (.istore_n 2, 1) := by decide +kernel
theorem dX3_turn_5 : decode cX3_turn 5 = .ok (.aload_n 0, 1) := by decide +kernel
theorem dX3_turn_6 : decode cX3_turn 6 = .ok (.iload_n 1, 1) := by decide +kernel
theorem dX3_turn_7 : decode cX3_turn 7 = .ok (.putfield 7, 3) := by decide +kernel
theorem dX3_turn_10 : decode cX3_turn 10 = .ok (.iload_n 1, 1) := by decide +kernel
theorem dX3_turn_11 : decode cX3_turn 11 = .ok (.ifCond .ne 7, 3) := by decide +kernel
theorem dX3_turn_14 : decode cX3_turn 14 = .ok (.aload_n 0, 1) := by decide +kernel
theorem dX3_turn_15 : decode cX3_turn 15 = .ok (.invokevirtual 20, 3) := by decide +kernel
theorem dX3_turn_18 : decode cX3_turn 18 = .ok (.iload_n 2, 1) := by decide +kernel
theorem dX3_turn_19 : decode cX3_turn 19 = .ok (.ireturn, 1) := by decide +kernel
theorem dX3_takePlan_0 : decode cX3_takePlan 0 = .ok (.aload_n 0, 1) := by decide +kernel
theorem dX3_takePlan_1 : decode cX3_takePlan 1 = .ok (.getfield 35, 3) := by decide +kernel
theorem dX3_takePlan_4 : decode cX3_takePlan 4 = .ok (.iload_n 1, 1) := by decide +kernel
theorem dX3_takePlan_5 : decode cX3_takePlan 5 = .ok (.if_icmp .le 4, 3) := by decide +kernel
theorem dX3_takePlan_9 : decode cX3_takePlan 9 = .ok (.aload_n 0, 1) := by decide +kernel
theorem dX3_takePlan_10 : decode cX3_takePlan 10 = .ok (.iload 4, 2) := by decide +kernel
theorem dX3_takePlan_12 : decode cX3_takePlan 12 = .ok (.putfield 32, 3) := by decide +kernel
theorem dX3_takePlan_15 : decode cX3_takePlan 15 = .ok (.aload_n 0, 1) := by decide +kernel
theorem dX3_takePlan_16 : decode cX3_takePlan 16 = .ok (.iload_n 1, 1) := by decide +kernel
theorem dX3_takePlan_17 : decode cX3_takePlan 17 = .ok (.putfield 35, 3) := by decide +kernel
theorem dX3_takePlan_20 : decode cX3_takePlan 20 = .ok (.aload_n 0, 1) := by decide +kernel
theorem dX3_takePlan_21 : decode cX3_takePlan 21 = .ok (.iload_n 2, 1) := by decide +kernel
theorem dX3_takePlan_22 : decode cX3_takePlan 22 = .ok (.putfield 38, 3) := by decide +kernel
theorem dX3_takePlan_25 : decode cX3_takePlan 25 = .ok (.aload_n 0, 1) := by decide +kernel
theorem dX3_takePlan_26 : decode cX3_takePlan 26 = .ok (.iload_n 3, 1) := by decide +kernel
theorem dX3_takePlan_27 : decode cX3_takePlan 27 = .ok (.putfield 41, 3) := by decide +kernel
theorem dX3_takePlan_30 : decode cX3_takePlan 30 = .ok (.return_, 1) := by decide +kernel
theorem dX3_dropPlan_0 : decode cX3_dropPlan 0 = .ok (.aload_n 0, 1) := by decide +kernel
theorem dX3_dropPlan_1 : decode cX3_dropPlan 1 = .ok (.iconst 0, 1) := by decide +kernel
theorem dX3_dropPlan_2 : decode cX3_dropPlan 2 = .ok (.putfield 32, 3) := by decide +kernel
theorem dX3_dropPlan_5 : decode cX3_dropPlan 5 = .ok (.aload_n 0, 1) := by decide +kernel
theorem dX3_dropPlan_6 : decode cX3_dropPlan 6 = .ok (.iconst (-1), 1) := by decide +kernel
theorem dX3_dropPlan_7 : decode cX3_dropPlan 7 = .ok (.putfield 35, 3) := by decide +kernel
theorem dX3_dropPlan_10 : decode cX3_dropPlan 10 = .ok (.return_, 1) := by decide +kernel
theorem dX3_canChange_0 : decode cX3_canChange 0 = .ok (.aload_n 0, 1) := by decide +kernel
theorem dX3_canChange_1 : decode cX3_canChange 1 = .ok (.getfield 7, 3) := by decide +kernel
theorem dX3_canChange_4 : decode cX3_canChange 4 = .ok (.ifCond .eq 23, 3) := by decide +kernel
theorem dX3_canChange_7 : decode cX3_canChange 7 = .ok (.aload_n 0, 1) := by decide +kernel
theorem dX3_canChange_8 : decode cX3_canChange 8 = .ok (.getfield 32, 3) := by decide +kernel
theorem dX3_canChange_11 : decode cX3_canChange 11 = .ok (.iconst 2, 1) := by decide +kernel
theorem dX3_canChange_12 : decode cX3_canChange 12 = .ok (.if_icmp .ne 15, 3) := by decide +kernel
theorem dX3_canChange_15 : decode cX3_canChange 15 = .ok (.iload_n 1, 1) := by decide +kernel
theorem dX3_canChange_16 : decode cX3_canChange 16 = .ok (.aload_n 0, 1) := by decide +kernel
theorem dX3_canChange_17 : decode cX3_canChange 17 = .ok (.getfield 41, 3) := by decide +kernel
theorem dX3_canChange_20 : decode cX3_canChange 20 = .ok (.if_icmp .lt 7, 3) := by decide +kernel
theorem dX3_canChange_23 : decode cX3_canChange 23 = .ok (.iconst 1, 1) := by decide +kernel
theorem dX3_canChange_24 : decode cX3_canChange 24 = .ok (.goto 4, 3) := by decide +kernel
theorem dX3_canChange_27 : decode cX3_canChange 27 = .ok (.iconst 0, 1) := by decide +kernel
theorem dX3_canChange_28 : decode cX3_canChange 28 = .ok (.ireturn, 1) := by decide +kernel
theorem dX3_change_0 : decode cX3_change 0 = .ok (.aload_n 0, 1) := by decide +kernel
theorem dX3_change_1 : decode cX3_change 1 = .ok (.aload_n 0, 1) := by decide +kernel
theorem dX3_change_2 : decode cX3_change 2 = .ok (.getfield 38, 3) := by decide +kernel
theorem dX3_change_5 : decode cX3_change 5 = .ok (.putfield 17, 3) := by decide +kernel
theorem dX3_change_8 : decode cX3_change 8 = .ok (.aload_n 0, 1) := by decide +kernel
theorem dX3_change_9 : decode cX3_change 9 = .ok (.dup, 1) := by decide +kernel
theorem dX3_change_10 : decode cX3_change 10 = .ok (.getfield 23, 3) := by decide +kernel
theorem dX3_change_13 : decode cX3_change 13 = .ok (.iconst 1, 1) := by decide +kernel
theorem dX3_change_14 : decode cX3_change 14 = .ok (.iadd, 1) := by decide +kernel
theorem dX3_change_15 : decode cX3_change 15 = .ok (.putfield 23, 3) := by decide +kernel
theorem dX3_change_18 : decode cX3_change 18 = .ok (.iload_n 2, 1) := by decide +kernel
theorem dX3_change_19 : decode cX3_change 19 = .ok (.ifCond .eq 13, 3) := by decide +kernel
theorem dX3_change_32 : decode cX3_change 32 = .ok (.aload_n 0, 1) := by decide +kernel
theorem dX3_change_33 : decode cX3_change 33 = .ok (.iload_n 1, 1) := by decide +kernel
theorem dX3_change_34 : decode cX3_change 34 = .ok (.putfield 29, 3) := by decide +kernel
theorem dX3_change_37 : decode cX3_change 37 = .ok (.aload_n 0, 1) := by decide +kernel
theorem dX3_change_38 : decode cX3_change 38 = .ok (.invokevirtual 20, 3) := by decide +kernel
theorem dX3_change_41 : decode cX3_change 41 = .ok (.return_, 1) := by decide +kernel
theorem dX4_init_0 : decode cX4_init 0 = .ok (.aload_n 0, 1) := by decide +kernel
theorem dX4_init_1 : decode cX4_init 1 = .ok (.invokespecial 1, 3) := by decide +kernel
theorem dX4_init_4 : decode cX4_init 4 = .ok (.return_, 1) := by decide +kernel
theorem dX4_begin_0 : decode cX4_begin 0 = .ok (.aload_n 0, 1) := by decide +kernel
theorem dX4_begin_1 : decode cX4_begin 1 = .ok (.iconst 3, 1) := by decide +kernel
theorem dX4_begin_2 : decode cX4_begin 2 = .ok (.putfield 9, 3) := by decide +kernel
theorem dX4_begin_5 : decode cX4_begin 5 = .ok (.aload_n 0, 1) := by decide +kernel
theorem dX4_begin_6 : decode cX4_begin 6 = .ok (.iconst (-1), 1) := by decide +kernel
theorem dX4_begin_7 : decode cX4_begin 7 = .ok (.putfield 13, 3) := by decide +kernel
theorem dX4_begin_10 : decode cX4_begin 10 = .ok (.return_, 1) := by decide +kernel
theorem dX4_start_0 : decode cX4_start 0 = .ok (.aload_n 0, 1) := by decide +kernel
theorem dX4_start_1 : decode cX4_start 1 = .ok (.iload_n 1, 1) := by decide +kernel
theorem dX4_start_2 : decode cX4_start 2 = .ok (.putfield 16, 3) := by decide +kernel
theorem dX4_start_5 : decode cX4_start 5 = .ok (.aload_n 0, 1) := by decide +kernel
theorem dX4_start_6 : decode cX4_start 6 = .ok (.iload_n 2, 1) := by decide +kernel
theorem dX4_start_7 : decode cX4_start 7 = .ok (.putfield 19, 3) := by decide +kernel
theorem dX4_start_10 : decode cX4_start 10 = .ok (.aload_n 0, 1) := by decide +kernel
theorem dX4_start_11 : decode cX4_start 11 = .ok (.iload_n 3, 1) := by decide +kernel
theorem dX4_start_12 : decode cX4_start 12 = .ok (.putfield 22, 3) := by decide +kernel
theorem dX4_start_15 : decode cX4_start 15 = .ok (.aload_n 0, 1) := by decide +kernel
theorem dX4_start_16 : decode cX4_start 16 = .ok (.iload 4, 2) := by decide +kernel
theorem dX4_start_18 : decode cX4_start 18 = .ok (.putfield 25, 3) := by decide +kernel
theorem dX4_start_21 : decode cX4_start 21 = .ok (.aload_n 0, 1) := by decide +kernel
theorem dX4_start_22 : decode cX4_start 22 = .ok (.iconst 1, 1) := by decide +kernel
theorem dX4_start_23 : decode cX4_start 23 = .ok (.putfield 28, 3) := by decide +kernel
theorem dX4_start_26 : decode cX4_start 26 = .ok (.aload_n 0, 1) := by decide +kernel
theorem dX4_start_27 : decode cX4_start 27 = .ok (.iconst 0, 1) := by decide +kernel
theorem dX4_start_28 : decode cX4_start 28 = .ok (.putfield 9, 3) := by decide +kernel
theorem dX4_start_31 : decode cX4_start 31 = .ok (.aload_n 0, 1) := by decide +kernel
theorem dX4_start_32 : decode cX4_start 32 = .ok (.iconst (-1), 1) := by decide +kernel
theorem dX4_start_33 : decode cX4_start 33 = .ok (.putfield 13, 3) := by decide +kernel
theorem dX4_start_36 : decode cX4_start 36 = .ok (.return_, 1) := by decide +kernel
theorem dX4_copyFrom_0 : decode cX4_copyFrom 0 = .ok (.aload_n 0, 1) := by decide +kernel
theorem dX4_copyFrom_1 : decode cX4_copyFrom 1 = .ok (.aload_n 1, 1) := by decide +kernel
theorem dX4_copyFrom_2 : decode cX4_copyFrom 2 = .ok (.getfield 16, 3) := by decide +kernel
theorem dX4_copyFrom_5 : decode cX4_copyFrom 5 = .ok (.putfield 16, 3) := by decide +kernel
theorem dX4_copyFrom_8 : decode cX4_copyFrom 8 = .ok (.aload_n 0, 1) := by decide +kernel
theorem dX4_copyFrom_9 : decode cX4_copyFrom 9 = .ok (.aload_n 1, 1) := by decide +kernel
theorem dX4_copyFrom_10 : decode cX4_copyFrom 10 = .ok (.getfield 19, 3) := by decide +kernel
theorem dX4_copyFrom_13 : decode cX4_copyFrom 13 = .ok (.putfield 19, 3) := by decide +kernel
theorem dX4_copyFrom_16 : decode cX4_copyFrom 16 = .ok (.aload_n 0, 1) := by decide +kernel
theorem dX4_copyFrom_17 : decode cX4_copyFrom 17 = .ok (.aload_n 1, 1) := by decide +kernel
theorem dX4_copyFrom_18 : decode cX4_copyFrom 18 = .ok (.getfield 22, 3) := by decide +kernel
theorem dX4_copyFrom_21 : decode cX4_copyFrom 21 = .ok (.putfield 22, 3) := by decide +kernel
theorem dX4_copyFrom_24 : decode cX4_copyFrom 24 = .ok (.aload_n 0, 1) := by decide +kernel
theorem dX4_copyFrom_25 : decode cX4_copyFrom 25 = .ok (.aload_n 1, 1) := by decide +kernel
theorem dX4_copyFrom_26 : decode cX4_copyFrom 26 = .ok (.getfield 25, 3) := by decide +kernel
theorem dX4_copyFrom_29 : decode cX4_copyFrom 29 = .ok (.putfield 25, 3) := by decide +kernel
theorem dX4_copyFrom_32 : decode cX4_copyFrom 32 = .ok (.aload_n 0, 1) := by decide +kernel
theorem dX4_copyFrom_33 : decode cX4_copyFrom 33 = .ok (.aload_n 1, 1) := by decide +kernel
theorem dX4_copyFrom_34 : decode cX4_copyFrom 34 = .ok (.getfield 28, 3) := by decide +kernel
theorem dX4_copyFrom_37 : decode cX4_copyFrom 37 = .ok (.putfield 28, 3) := by decide +kernel
theorem dX4_copyFrom_40 : decode cX4_copyFrom 40 = .ok (.aload_n 0, 1) := by decide +kernel
theorem dX4_copyFrom_41 : decode cX4_copyFrom 41 = .ok (.aload_n 1, 1) := by decide +kernel
theorem dX4_copyFrom_42 : decode cX4_copyFrom 42 = .ok (.getfield 9, 3) := by decide +kernel
theorem dX4_copyFrom_45 : decode cX4_copyFrom 45 = .ok (.putfield 9, 3) := by decide +kernel
theorem dX4_copyFrom_48 : decode cX4_copyFrom 48 = .ok (.aload_n 0, 1) := by decide +kernel
theorem dX4_copyFrom_49 : decode cX4_copyFrom 49 = .ok (.aload_n 1, 1) := by decide +kernel
theorem dX4_copyFrom_50 : decode cX4_copyFrom 50 = .ok (.getfield 13, 3) := by decide +kernel
theorem dX4_copyFrom_53 : decode cX4_copyFrom 53 = .ok (.putfield 13, 3) := by decide +kernel
theorem dX4_copyFrom_56 : decode cX4_copyFrom 56 = .ok (.aload_n 0, 1) := by decide +kernel
theorem dX4_copyFrom_57 : decode cX4_copyFrom 57 = .ok (.aload_n 1, 1) := by decide +kernel
theorem dX4_copyFrom_58 : decode cX4_copyFrom 58 = .ok (.getfield 31, 3) := by decide +kernel
theorem dX4_copyFrom_61 : decode cX4_copyFrom 61 = .ok (.putfield 31, 3) := by decide +kernel
theorem dX4_copyFrom_64 : decode cX4_copyFrom 64 = .ok (.return_, 1) := by decide +kernel
theorem dX4_noteChange_0 : decode cX4_noteChange 0 = .ok (.aload_n 0, 1) := by decide +kernel
theorem dX4_noteChange_1 : decode cX4_noteChange 1 = .ok (.getfield 13, 3) := by decide +kernel
theorem dX4_noteChange_4 : decode cX4_noteChange 4 = .ok (.ifCond .ge 8, 3) := by decide +kernel
theorem dX4_noteChange_7 : decode cX4_noteChange 7 = .ok (.aload_n 0, 1) := by decide +kernel
theorem dX4_noteChange_8 : decode cX4_noteChange 8 = .ok (.iload_n 1, 1) := by decide +kernel
theorem dX4_noteChange_9 : decode cX4_noteChange 9 = .ok (.putfield 13, 3) := by decide +kernel
theorem dX4_noteChange_12 : decode cX4_noteChange 12 = .ok (.aload_n 0, 1) := by decide +kernel
theorem dX4_noteChange_13 : decode cX4_noteChange 13 = .ok (.iload_n 1, 1) := by decide +kernel
theorem dX4_noteChange_14 : decode cX4_noteChange 14 = .ok (.putfield 31, 3) := by decide +kernel
theorem dX4_noteChange_17 : decode cX4_noteChange 17 = .ok (.return_, 1) := by decide +kernel
theorem dX4_spreadOfChanges_0 : decode cX4_spreadOfChanges 0 = .ok (.aload_n 0, 1) := by decide +kernel
theorem dX4_spreadOfChanges_1 : decode cX4_spreadOfChanges 1 = .ok (.getfield 13, 3) := by decide +kernel
theorem dX4_spreadOfChanges_4 : decode cX4_spreadOfChanges 4 = .ok (.ifCond .ge 7, 3) := by decide +kernel
theorem dX4_spreadOfChanges_7 : decode cX4_spreadOfChanges 7 = .ok (.iconst (-1), 1) := by decide +kernel
theorem dX4_spreadOfChanges_8 : decode cX4_spreadOfChanges 8 = .ok (.goto 12, 3) := by decide +kernel
theorem dX4_spreadOfChanges_20 : decode cX4_spreadOfChanges 20 = .ok (.ireturn, 1) := by decide +kernel
theorem dX5_init_0 : decode cX5_init 0 = .ok (.aload_n 0, 1) := by decide +kernel
theorem dX5_init_1 : decode cX5_init 1 = .ok (.invokespecial 3, 3) := by decide +kernel
theorem dX5_init_4 : decode cX5_init 4 = .ok (.aload_n 0, 1) := by decide +kernel
theorem dX5_init_5 : decode cX5_init 5 = .ok (.sipush 600, 3) := by decide +kernel
theorem dX5_init_8 : decode cX5_init 8 = .ok (.newarray .byte, 2) := by decide +kernel
theorem dX5_init_10 : decode cX5_init 10 = .ok (.putfield 11, 3) := by decide +kernel
theorem dX5_init_13 : decode cX5_init 13 = .ok (.aload_n 0, 1) := by decide +kernel
theorem dX5_init_14 : decode cX5_init 14 = .ok (.sipush 600, 3) := by decide +kernel
theorem dX5_init_17 : decode cX5_init 17 = .ok (.newarray .int, 2) := by decide +kernel
theorem dX5_init_19 : decode cX5_init 19 = .ok (.putfield 15, 3) := by decide +kernel
theorem dX5_init_22 : decode cX5_init 22 = .ok (.return_, 1) := by decide +kernel
theorem dX5_hasRoomFor_0 : decode cX5_hasRoomFor 0 = .ok (.aload_n 0, 1) := by decide +kernel
theorem dX5_hasRoomFor_1 : decode cX5_hasRoomFor 1 = .ok (.getfield 19, 3) := by decide +kernel
theorem dX5_hasRoomFor_4 : decode cX5_hasRoomFor 4 = .ok (.iload_n 1, 1) := by decide +kernel
theorem dX5_hasRoomFor_5 : decode cX5_hasRoomFor 5 = .ok (.iadd, 1) := by decide +kernel
theorem dX5_hasRoomFor_6 : decode cX5_hasRoomFor 6 = .ok (.aload_n 0, 1) := by decide +kernel
theorem dX5_hasRoomFor_7 : decode cX5_hasRoomFor 7 = .ok (.getfield 11, 3) := by decide +kernel
theorem dX5_hasRoomFor_10 : decode cX5_hasRoomFor 10 = .ok (.arraylength, 1) := by decide +kernel
theorem dX5_hasRoomFor_11 : decode cX5_hasRoomFor 11 = .ok (.if_icmp .gt 7, 3) := by decide +kernel
theorem dX5_hasRoomFor_14 : decode cX5_hasRoomFor 14 = .ok (.iconst 1, 1) := by decide +kernel
theorem dX5_hasRoomFor_15 : decode cX5_hasRoomFor 15 = .ok (.goto 4, 3) := by decide +kernel
theorem dX5_hasRoomFor_19 : decode cX5_hasRoomFor 19 = .ok (.ireturn, 1) := by decide +kernel
theorem dX5_store_0 : decode cX5_store 0 = .ok (.bipush 24, 2) := by decide +kernel
theorem dX5_store_2 : decode cX5_store 2 = .ok (.istore_n 2, 1) := by decide +kernel
theorem dX5_store_3 : decode cX5_store 3 = .ok (.iload_n 2, 1) := by decide +kernel
theorem dX5_store_4 : decode cX5_store 4 = .ok (.ifCond .lt 44, 3) := by decide +kernel
theorem dX5_store_7 : decode cX5_store 7 = .ok (.aload_n 0, 1) := by decide +kernel
theorem dX5_store_8 : decode cX5_store 8 = .ok (.getfield 19, 3) := by decide +kernel
theorem dX5_store_11 : decode cX5_store 11 = .ok (.aload_n 0, 1) := by decide +kernel
theorem dX5_store_12 : decode cX5_store 12 = .ok (.getfield 11, 3) := by decide +kernel
theorem dX5_store_15 : decode cX5_store 15 = .ok (.arraylength, 1) := by decide +kernel
theorem dX5_store_16 : decode cX5_store 16 = .ok (.if_icmp .ge 32, 3) := by decide +kernel
theorem dX5_store_19 : decode cX5_store 19 = .ok (.aload_n 0, 1) := by decide +kernel
theorem dX5_store_20 : decode cX5_store 20 = .ok (.getfield 11, 3) := by decide +kernel
theorem dX5_store_23 : decode cX5_store 23 = .ok (.aload_n 0, 1) := by decide +kernel
theorem dX5_store_24 : decode cX5_store 24 = .ok (.getfield 19, 3) := by decide +kernel
theorem dX5_store_27 : decode cX5_store 27 = .ok (.iload_n 1, 1) := by decide +kernel
theorem dX5_store_28 : decode cX5_store 28 = .ok (.iload_n 2, 1) := by decide +kernel
theorem dX5_store_29 : decode cX5_store 29 = .ok (.ishr, 1) := by decide +kernel
theorem dX5_store_30 : decode cX5_store 30 = .ok (.i2b, 1) := by decide +kernel
theorem dX5_store_31 : decode cX5_store 31 = .ok (.bastore, 1) := by decide +kernel
theorem dX5_store_32 : decode cX5_store 32 = .ok (.aload_n 0, 1) := by decide +kernel
theorem dX5_store_33 : decode cX5_store 33 = .ok (.dup, 1) := by decide +kernel
theorem dX5_store_34 : decode cX5_store 34 = .ok (.getfield 19, 3) := by decide +kernel
theorem dX5_store_37 : decode cX5_store 37 = .ok (.iconst 1, 1) := by decide +kernel
theorem dX5_store_38 : decode cX5_store 38 = .ok (.iadd, 1) := by decide +kernel
theorem dX5_store_39 : decode cX5_store 39 = .ok (.putfield 19, 3) := by decide +kernel
theorem dX5_store_42 : decode cX5_store 42 = .ok (.iinc 2 (-8), 3) := by decide +kernel
theorem dX5_store_45 : decode cX5_store 45 = .ok (.goto (-42), 3) := by decide +kernel
theorem dX5_store_48 : decode cX5_store 48 = .ok (.return_, 1) := by decide +kernel
theorem dX5_read_0 : decode cX5_read 0 = .ok (.aload_n 0, 1) := by decide +kernel
theorem dX5_read_1 : decode cX5_read 1 = .ok (.iconst 0, 1) := by decide +kernel
theorem dX5_read_2 : decode cX5_read 2 = .ok (.iload_n 1, 1) := by decide +kernel
theorem dX5_read_3 : decode cX5_read 3 = .ok (.aload_n 0, 1) := by decide +kernel
theorem dX5_read_4 : decode cX5_read 4 = .ok (.getfield 11, 3) := by decide +kernel
theorem dX5_read_7 : decode cX5_read 7 = .ok (.arraylength, 1) := by decide +kernel
theorem dX5_read_8 : decode cX5_read 8 = .ok (.invokestatic 23, 3) := by decide +kernel
theorem dX5_read_11 : decode cX5_read 11 = .ok (.invokestatic 29, 3) := by decide +kernel
theorem dX5_read_14 : decode cX5_read 14 = .ok (.putfield 32, 3) := by decide +kernel
theorem dX5_read_17 : decode cX5_read 17 = .ok (.aload_n 0, 1) := by decide +kernel
theorem dX5_read_18 : decode cX5_read 18 = .ok (.iconst 0, 1) := by decide +kernel
theorem dX5_read_19 : decode cX5_read 19 = .ok (.putfield 19, 3) := by decide +kernel
theorem dX5_read_22 : decode cX5_read 22 = .ok (.aload_n 0, 1) := by decide +kernel
theorem dX5_read_23 : decode cX5_read 23 = .ok (.iconst 0, 1) := by decide +kernel
theorem dX5_read_24 : decode cX5_read 24 = .ok (.putfield 35, 3) := by decide +kernel
theorem dX5_read_27 : decode cX5_read 27 = .ok (.aload_n 0, 1) := by decide +kernel
theorem dX5_read_28 : decode cX5_read 28 = .ok (.iconst 0, 1) := by decide +kernel
theorem dX5_read_29 : decode cX5_read 29 = .ok (.putfield 38, 3) := by decide +kernel
theorem dX5_read_32 : decode cX5_read 32 = .ok (.aload_n 0, 1) := by decide +kernel
theorem dX5_read_33 : decode cX5_read 33 = .ok (.iconst (-1), 1) := by decide +kernel
theorem dX5_read_34 : decode cX5_read 34 = .ok (.putfield 41, 3) := by decide +kernel
theorem dX5_read_37 : decode cX5_read 37 = .ok (.aload_n 0, 1) := by decide +kernel
theorem dX5_read_38 : decode cX5_read 38 = .ok (.invokevirtual 44, 3) := by decide +kernel
theorem dX5_read_41 : decode cX5_read 41 = .ok (.aload_n 0, 1) := by decide +kernel
theorem dX5_read_42 : decode cX5_read 42 = .ok (.ldc 47, 2) := by decide +kernel
theorem dX5_read_44 : decode cX5_read 44 = .ok (.invokevirtual 49, 3) := by decide +kernel
theorem dX5_read_47 : decode cX5_read 47 = .ok (.ifCond .eq 13, 3) := by decide +kernel
theorem dX5_read_60 : decode cX5_read 60 = .ok (.aconst_null, 1) := by decide +kernel
theorem dX5_read_61 : decode cX5_read 61 = .ok (.areturn, 1) := by decide +kernel
theorem dX5_takeWord_0 : decode cX5_takeWord 0 = .ok (.aload_n 0, 1) := by decide +kernel
theorem dX5_takeWord_1 : decode cX5_takeWord 1 = .ok (.aload_n 1, 1) := by decide +kernel
theorem dX5_takeWord_2 : decode cX5_takeWord 2 = .ok (.invokevirtual 85, 3) := by decide +kernel
theorem dX5_takeWord_5 : decode cX5_takeWord 5 = .ok (.ifCond .ne 14, 3) := by decide +kernel
theorem dX5_takeWord_8 : decode cX5_takeWord 8 = .ok (.aload_n 0, 1) := by decide +kernel
theorem dX5_takeWord_9 : decode cX5_takeWord 9 = .ok (.bipush (-2), 2) := by decide +kernel
theorem dX5_takeWord_11 : decode cX5_takeWord 11 = .ok (.aload_n 0, 1) := by decide +kernel
theorem dX5_takeWord_12 : decode cX5_takeWord 12 = .ok (.getfield 124, 3) := by decide +kernel
theorem dX5_takeWord_15 : decode cX5_takeWord 15 = .ok (.invokevirtual 127, 3) := by decide +kernel
theorem dX5_takeWord_18 : decode cX5_takeWord 18 = .ok (.ireturn, 1) := by decide +kernel
theorem dX5_isWord_0 : decode cX5_isWord 0 = .ok (.aload_n 0, 1) := by decide +kernel
theorem dX5_isWord_1 : decode cX5_isWord 1 = .ok (.getfield 73, 3) := by decide +kernel
theorem dX5_isWord_4 : decode cX5_isWord 4 = .ok (.iconst 2, 1) := by decide +kernel
theorem dX5_isWord_5 : decode cX5_isWord 5 = .ok (.if_icmp .ne 31, 3) := by decide +kernel
theorem dX5_isWord_36 : decode cX5_isWord 36 = .ok (.iconst 0, 1) := by decide +kernel
theorem dX5_isWord_37 : decode cX5_isWord 37 = .ok (.ireturn, 1) := by decide +kernel
theorem dX5_fail_0 : decode cX5_fail 0 = .ok (.aload_n 0, 1) := by decide +kernel
theorem dX5_fail_1 : decode cX5_fail 1 = .ok (.iload_n 1, 1) := by decide +kernel
theorem dX5_fail_2 : decode cX5_fail 2 = .ok (.putfield 186, 3) := by decide +kernel
theorem dX5_fail_5 : decode cX5_fail 5 = .ok (.aload_n 0, 1) := by decide +kernel
theorem dX5_fail_6 : decode cX5_fail 6 = .ok (.iload_n 2, 1) := by decide +kernel
theorem dX5_fail_7 : decode cX5_fail 7 = .ok (.putfield 41, 3) := by decide +kernel
theorem dX5_fail_10 : decode cX5_fail 10 = .ok (.iconst 0, 1) := by decide +kernel
theorem dX5_fail_11 : decode cX5_fail 11 = .ok (.ireturn, 1) := by decide +kernel
theorem dX5_step_0 : decode cX5_step 0 = .ok (.aload_n 0, 1) := by decide +kernel
theorem dX5_step_1 : decode cX5_step 1 = .ok (.getfield 35, 3) := by decide +kernel
theorem dX5_step_4 : decode cX5_step 4 = .ok (.aload_n 0, 1) := by decide +kernel
theorem dX5_step_5 : decode cX5_step 5 = .ok (.getfield 32, 3) := by decide +kernel
theorem dX5_step_8 : decode cX5_step 8 = .ok (.if_icmp .ge 30, 3) := by decide +kernel
theorem dX5_step_38 : decode cX5_step 38 = .ok (.aload_n 0, 1) := by decide +kernel
theorem dX5_step_39 : decode cX5_step 39 = .ok (.aload_n 0, 1) := by decide +kernel
theorem dX5_step_40 : decode cX5_step 40 = .ok (.getfield 35, 3) := by decide +kernel
theorem dX5_step_43 : decode cX5_step 43 = .ok (.putfield 124, 3) := by decide +kernel
theorem dX5_step_46 : decode cX5_step 46 = .ok (.aload_n 0, 1) := by decide +kernel
theorem dX5_step_47 : decode cX5_step 47 = .ok (.iconst 0, 1) := by decide +kernel
theorem dX5_step_48 : decode cX5_step 48 = .ok (.putfield 175, 3) := by decide +kernel
theorem dX5_step_51 : decode cX5_step 51 = .ok (.aload_n 0, 1) := by decide +kernel
theorem dX5_step_52 : decode cX5_step 52 = .ok (.getfield 35, 3) := by decide +kernel
theorem dX5_step_55 : decode cX5_step 55 = .ok (.aload_n 0, 1) := by decide +kernel
theorem dX5_step_56 : decode cX5_step 56 = .ok (.getfield 32, 3) := by decide +kernel
theorem dX5_step_59 : decode cX5_step 59 = .ok (.if_icmp .lt 9, 3) := by decide +kernel
theorem dX5_step_62 : decode cX5_step 62 = .ok (.aload_n 0, 1) := by decide +kernel
theorem dX5_step_63 : decode cX5_step 63 = .ok (.iconst 0, 1) := by decide +kernel
theorem dX5_step_64 : decode cX5_step 64 = .ok (.putfield 73, 3) := by decide +kernel
theorem dX5_step_67 : decode cX5_step 67 = .ok (.return_, 1) := by decide +kernel
theorem dX6_init_0 : decode cX6_init 0 = .ok (.aload_n 0, 1) := by decide +kernel
theorem dX6_init_1 : decode cX6_init 1 = .ok (.invokespecial 1, 3) := by decide +kernel
theorem dX6_init_4 : decode cX6_init 4 = .ok (.aload_n 0, 1) := by decide +kernel
theorem dX6_init_5 : decode cX6_init 5 = .ok (.bipush 8, 2) := by decide +kernel
theorem dX6_init_7 : decode cX6_init 7 = .ok (.newarray .boolean, 2) := by decide +kernel
theorem dX6_init_9 : decode cX6_init 9 = .ok (.putfield 9, 3) := by decide +kernel
theorem dX6_init_12 : decode cX6_init 12 = .ok (.aload_n 0, 1) := by decide +kernel
theorem dX6_init_13 : decode cX6_init 13 = .ok (.bipush 8, 2) := by decide +kernel
theorem dX6_init_15 : decode cX6_init 15 = .ok (.newarray .int, 2) := by decide +kernel
theorem dX6_init_17 : decode cX6_init 17 = .ok (.putfield 13, 3) := by decide +kernel
theorem dX6_init_20 : decode cX6_init 20 = .ok (.aload_n 0, 1) := by decide +kernel
theorem dX6_init_21 : decode cX6_init 21 = .ok (.bipush 8, 2) := by decide +kernel
theorem dX6_init_23 : decode cX6_init 23 = .ok (.newarray .int, 2) := by decide +kernel
theorem dX6_init_25 : decode cX6_init 25 = .ok (.putfield 17, 3) := by decide +kernel
theorem dX6_init_28 : decode cX6_init 28 = .ok (.aload_n 0, 1) := by decide +kernel
theorem dX6_init_29 : decode cX6_init 29 = .ok (.bipush 64, 2) := by decide +kernel
theorem dX6_init_31 : decode cX6_init 31 = .ok (.newarray .int, 2) := by decide +kernel
theorem dX6_init_33 : decode cX6_init 33 = .ok (.putfield 20, 3) := by decide +kernel
theorem dX6_init_36 : decode cX6_init 36 = .ok (.aload_n 0, 1) := by decide +kernel
theorem dX6_init_37 : decode cX6_init 37 = .ok (.iload_n 1, 1) := by decide +kernel
theorem dX6_init_38 : decode cX6_init 38 = .ok (.putfield 23, 3) := by decide +kernel
theorem dX6_init_41 : decode cX6_init 41 = .ok (.return_, 1) := by decide +kernel
theorem dX6_fillIn_0 : decode cX6_fillIn 0 = .ok (.aload_n 0, 1) := by decide +kernel
theorem dX6_fillIn_1 : decode cX6_fillIn 1 = .ok (.getfield 27, 3) := by decide +kernel
theorem dX6_fillIn_4 : decode cX6_fillIn 4 = .ok (.ifCond .ne 11, 3) := by decide +kernel
theorem dX6_fillIn_7 : decode cX6_fillIn 7 = .ok (.aload_n 0, 1) := by decide +kernel
theorem dX6_fillIn_8 : decode cX6_fillIn 8 = .ok (.aload_n 0, 1) := by decide +kernel
theorem dX6_fillIn_9 : decode cX6_fillIn 9 = .ok (.getfield 23, 3) := by decide +kernel
theorem dX6_fillIn_12 : decode cX6_fillIn 12 = .ok (.putfield 27, 3) := by decide +kernel
theorem dX6_fillIn_15 : decode cX6_fillIn 15 = .ok (.aload_n 0, 1) := by decide +kernel
theorem dX6_fillIn_16 : decode cX6_fillIn 16 = .ok (.getfield 30, 3) := by decide +kernel
theorem dX6_fillIn_19 : decode cX6_fillIn 19 = .ok (.ifCond .ne 9, 3) := by decide +kernel
theorem dX6_fillIn_22 : decode cX6_fillIn 22 = .ok (.aload_n 0, 1) := by decide +kernel
theorem dX6_fillIn_23 : decode cX6_fillIn 23 = .ok (.bipush 50, 2) := by decide +kernel
theorem dX6_fillIn_25 : decode cX6_fillIn 25 = .ok (.putfield 30, 3) := by decide +kernel
theorem dX6_fillIn_28 : decode cX6_fillIn 28 = .ok (.return_, 1) := by decide +kernel
theorem dX6_delayOf_0 : decode cX6_delayOf 0 = .ok (.aload_n 0, 1) := by decide +kernel
theorem dX6_delayOf_1 : decode cX6_delayOf 1 = .ok (.getfield 20, 3) := by decide +kernel
theorem dX6_delayOf_4 : decode cX6_delayOf 4 = .ok (.iload_n 1, 1) := by decide +kernel
theorem dX6_delayOf_5 : decode cX6_delayOf 5 = .ok (.iload_n 2, 1) := by decide +kernel
theorem dX6_delayOf_6 : decode cX6_delayOf 6 = .ok (.invokestatic 33, 3) := by decide +kernel
theorem dX6_delayOf_9 : decode cX6_delayOf 9 = .ok (.iaload, 1) := by decide +kernel
theorem dX6_delayOf_10 : decode cX6_delayOf 10 = .ok (.ireturn, 1) := by decide +kernel
theorem dX6_clock_0 : decode cX6_clock 0 = .ok (.iload_n 2, 1) := by decide +kernel
theorem dX6_clock_1 : decode cX6_clock 1 = .ok (.aload_n 0, 1) := by decide +kernel
theorem dX6_clock_2 : decode cX6_clock 2 = .ok (.getfield 13, 3) := by decide +kernel
theorem dX6_clock_5 : decode cX6_clock 5 = .ok (.iload_n 1, 1) := by decide +kernel
theorem dX6_clock_6 : decode cX6_clock 6 = .ok (.bipush 7, 2) := by decide +kernel
theorem dX6_clock_8 : decode cX6_clock 8 = .ok (.iand, 1) := by decide +kernel
theorem dX6_clock_9 : decode cX6_clock 9 = .ok (.iaload, 1) := by decide +kernel
theorem dX6_clock_10 : decode cX6_clock 10 = .ok (.iadd, 1) := by decide +kernel
theorem dX6_clock_11 : decode cX6_clock 11 = .ok (.iload_n 2, 1) := by decide +kernel
theorem dX6_clock_12 : decode cX6_clock 12 = .ok (.aload_n 0, 1) := by decide +kernel
theorem dX6_clock_13 : decode cX6_clock 13 = .ok (.getfield 17, 3) := by decide +kernel
theorem dX6_clock_16 : decode cX6_clock 16 = .ok (.iload_n 1, 1) := by decide +kernel
theorem dX6_clock_17 : decode cX6_clock 17 = .ok (.bipush 7, 2) := by decide +kernel
theorem dX6_clock_19 : decode cX6_clock 19 = .ok (.iand, 1) := by decide +kernel
theorem dX6_clock_20 : decode cX6_clock 20 = .ok (.iaload, 1) := by decide +kernel
theorem dX6_clock_21 : decode cX6_clock 21 = .ok (.imul, 1) := by decide +kernel
theorem dX6_clock_22 : decode cX6_clock 22 = .ok (.sipush 1000, 3) := by decide +kernel
theorem dX6_clock_25 : decode cX6_clock 25 = .ok (.idiv, 1) := by decide +kernel
theorem dX6_clock_26 : decode cX6_clock 26 = .ok (.iadd, 1) := by decide +kernel
theorem dX6_clock_27 : decode cX6_clock 27 = .ok (.ireturn, 1) := by decide +kernel
theorem dX6_place_0 : decode cX6_place 0 = .ok (.iload_n 0, 1) := by decide +kernel
theorem dX6_place_1 : decode cX6_place 1 = .ok (.bipush 7, 2) := by decide +kernel
theorem dX6_place_3 : decode cX6_place 3 = .ok (.iand, 1) := by decide +kernel
theorem dX6_place_4 : decode cX6_place 4 = .ok (.bipush 8, 2) := by decide +kernel
theorem dX6_place_6 : decode cX6_place 6 = .ok (.imul, 1) := by decide +kernel
theorem dX6_place_7 : decode cX6_place 7 = .ok (.iload_n 1, 1) := by decide +kernel
theorem dX6_place_8 : decode cX6_place 8 = .ok (.bipush 7, 2) := by decide +kernel
theorem dX6_place_10 : decode cX6_place 10 = .ok (.iand, 1) := by decide +kernel
theorem dX6_place_11 : decode cX6_place 11 = .ok (.iadd, 1) := by decide +kernel
theorem dX6_place_12 : decode cX6_place 12 = .ok (.ireturn, 1) := by decide +kernel
theorem dX7_init_0 : decode cX7_init 0 = .ok (.aload_n 0, 1) := by decide +kernel
theorem dX7_init_1 : decode cX7_init 1 = .ok (.invokespecial 1, 3) := by decide +kernel
theorem dX7_init_4 : decode cX7_init 4 = .ok (.aload_n 0, 1) := by decide +kernel
theorem dX7_init_5 : decode cX7_init 5 = .ok (.bipush 8, 2) := by decide +kernel
theorem dX7_init_7 : decode cX7_init 7 = .ok (.anewarray 9, 3) := by decide +kernel
theorem dX7_init_10 : decode cX7_init 10 = .ok (.putfield 11, 3) := by decide +kernel
theorem dX7_init_13 : decode cX7_init 13 = .ok (.aload_n 0, 1) := by decide +kernel
theorem dX7_init_14 : decode cX7_init 14 = .ok (.new 17, 3) := by decide +kernel
theorem dX7_init_17 : decode cX7_init 17 = .ok (.dup, 1) := by decide +kernel
theorem dX7_init_18 : decode cX7_init 18 = .ok (.invokespecial 19, 3) := by decide +kernel
theorem dX7_init_21 : decode cX7_init 21 = .ok (.putfield 20, 3) := by decide +kernel
theorem dX7_init_24 : decode cX7_init 24 = .ok (.aload_n 0, 1) := by decide +kernel
theorem dX7_init_25 : decode cX7_init 25 = .ok (.new 24, 3) := by decide +kernel
theorem dX7_init_28 : decode cX7_init 28 = .ok (.dup, 1) := by decide +kernel
theorem dX7_init_29 : decode cX7_init 29 = .ok (.invokespecial 26, 3) := by decide +kernel
theorem dX7_init_32 : decode cX7_init 32 = .ok (.putfield 27, 3) := by decide +kernel
theorem dX7_init_35 : decode cX7_init 35 = .ok (.aload_n 0, 1) := by decide +kernel
theorem dX7_init_36 : decode cX7_init 36 = .ok (.new 31, 3) := by decide +kernel
theorem dX7_init_39 : decode cX7_init 39 = .ok (.dup, 1) := by decide +kernel
theorem dX7_init_40 : decode cX7_init 40 = .ok (.invokespecial 33, 3) := by decide +kernel
theorem dX7_init_43 : decode cX7_init 43 = .ok (.putfield 34, 3) := by decide +kernel
theorem dX7_init_46 : decode cX7_init 46 = .ok (.aload_n 0, 1) := by decide +kernel
theorem dX7_init_47 : decode cX7_init 47 = .ok (.new 31, 3) := by decide +kernel
theorem dX7_init_50 : decode cX7_init 50 = .ok (.dup, 1) := by decide +kernel
theorem dX7_init_51 : decode cX7_init 51 = .ok (.invokespecial 33, 3) := by decide +kernel
theorem dX7_init_54 : decode cX7_init 54 = .ok (.putfield 38, 3) := by decide +kernel
theorem dX7_init_57 : decode cX7_init 57 = .ok (.iconst 0, 1) := by decide +kernel
theorem dX7_init_58 : decode cX7_init 58 = .ok (.istore_n 1, 1) := by decide +kernel
theorem dX7_init_59 : decode cX7_init 59 = .ok (.iload_n 1, 1) := by decide +kernel
theorem dX7_init_60 : decode cX7_init 60 = .ok (.aload_n 0, 1) := by decide +kernel
theorem dX7_init_61 : decode cX7_init 61 = .ok (.getfield 11, 3) := by decide +kernel
theorem dX7_init_64 : decode cX7_init 64 = .ok (.arraylength, 1) := by decide +kernel
theorem dX7_init_65 : decode cX7_init 65 = .ok (.if_icmp .ge 22, 3) := by decide +kernel
theorem dX7_init_68 : decode cX7_init 68 = .ok (.aload_n 0, 1) := by decide +kernel
theorem dX7_init_69 : decode cX7_init 69 = .ok (.getfield 11, 3) := by decide +kernel
theorem dX7_init_72 : decode cX7_init 72 = .ok (.iload_n 1, 1) := by decide +kernel
theorem dX7_init_73 : decode cX7_init 73 = .ok (.new 9, 3) := by decide +kernel
theorem dX7_init_76 : decode cX7_init 76 = .ok (.dup, 1) := by decide +kernel
theorem dX7_init_77 : decode cX7_init 77 = .ok (.invokespecial 41, 3) := by decide +kernel
theorem dX7_init_80 : decode cX7_init 80 = .ok (.aastore, 1) := by decide +kernel
theorem dX7_init_81 : decode cX7_init 81 = .ok (.iinc 1 1, 3) := by decide +kernel
theorem dX7_init_84 : decode cX7_init 84 = .ok (.goto (-25), 3) := by decide +kernel
theorem dX7_init_87 : decode cX7_init 87 = .ok (.new 7, 3) := by decide +kernel
theorem dX7_init_90 : decode cX7_init 90 = .ok (.dup, 1) := by decide +kernel
theorem dX7_init_91 : decode cX7_init 91 = .ok (.iconst 1, 1) := by decide +kernel
theorem dX7_init_92 : decode cX7_init 92 = .ok (.invokespecial 42, 3) := by decide +kernel
theorem dX7_init_95 : decode cX7_init 95 = .ok (.astore_n 1, 1) := by decide +kernel
theorem dX7_init_96 : decode cX7_init 96 = .ok (.aload_n 1, 1) := by decide +kernel
theorem dX7_init_97 : decode cX7_init 97 = .ok (.invokevirtual 45, 3) := by decide +kernel
theorem dX7_init_100 : decode cX7_init 100 = .ok (.aload_n 0, 1) := by decide +kernel
theorem dX7_init_101 : decode cX7_init 101 = .ok (.aload_n 1, 1) := by decide +kernel
theorem dX7_init_102 : decode cX7_init 102 = .ok (.invokevirtual 48, 3) := by decide +kernel
theorem dX7_init_105 : decode cX7_init 105 = .ok (.return_, 1) := by decide +kernel
theorem dX7_begin_0 : decode cX7_begin 0 = .ok (.aload_n 0, 1) := by decide +kernel
theorem dX7_begin_1 : decode cX7_begin 1 = .ok (.aload_n 1, 1) := by decide +kernel
theorem dX7_begin_2 : decode cX7_begin 2 = .ok (.putfield 52, 3) := by decide +kernel
theorem dX7_begin_5 : decode cX7_begin 5 = .ok (.iconst 0, 1) := by decide +kernel
theorem dX7_begin_6 : decode cX7_begin 6 = .ok (.istore_n 2, 1) := by decide +kernel
theorem dX7_begin_7 : decode cX7_begin 7 = .ok (.iload_n 2, 1) := by decide +kernel
theorem dX7_begin_8 : decode cX7_begin 8 = .ok (.aload_n 0, 1) := by decide +kernel
theorem dX7_begin_9 : decode cX7_begin 9 = .ok (.getfield 11, 3) := by decide +kernel
theorem dX7_begin_12 : decode cX7_begin 12 = .ok (.arraylength, 1) := by decide +kernel
theorem dX7_begin_13 : decode cX7_begin 13 = .ok (.if_icmp .ge 18, 3) := by decide +kernel
theorem dX7_begin_16 : decode cX7_begin 16 = .ok (.aload_n 0, 1) := by decide +kernel
theorem dX7_begin_17 : decode cX7_begin 17 = .ok (.getfield 11, 3) := by decide +kernel
theorem dX7_begin_20 : decode cX7_begin 20 = .ok (.iload_n 2, 1) := by decide +kernel
theorem dX7_begin_21 : decode cX7_begin 21 = .ok (.aaload, 1) := by decide +kernel
theorem dX7_begin_22 : decode cX7_begin 22 = .ok (.invokevirtual 56, 3) := by decide +kernel
theorem dX7_begin_25 : decode cX7_begin 25 = .ok (.iinc 2 1, 3) := by decide +kernel
theorem dX7_begin_28 : decode cX7_begin 28 = .ok (.goto (-21), 3) := by decide +kernel
theorem dX7_begin_31 : decode cX7_begin 31 = .ok (.aload_n 0, 1) := by decide +kernel
theorem dX7_begin_32 : decode cX7_begin 32 = .ok (.getfield 20, 3) := by decide +kernel
theorem dX7_begin_35 : decode cX7_begin 35 = .ok (.invokevirtual 58, 3) := by decide +kernel
theorem dX7_begin_38 : decode cX7_begin 38 = .ok (.aload_n 0, 1) := by decide +kernel
theorem dX7_begin_39 : decode cX7_begin 39 = .ok (.getfield 27, 3) := by decide +kernel
theorem dX7_begin_42 : decode cX7_begin 42 = .ok (.invokevirtual 59, 3) := by decide +kernel
theorem dX7_begin_45 : decode cX7_begin 45 = .ok (.aload_n 0, 1) := by decide +kernel
theorem dX7_begin_46 : decode cX7_begin 46 = .ok (.lconst 0, 1) := by decide +kernel
theorem dX7_begin_47 : decode cX7_begin 47 = .ok (.putfield 60, 3) := by decide +kernel
theorem dX7_begin_50 : decode cX7_begin 50 = .ok (.aload_n 0, 1) := by decide +kernel
theorem dX7_begin_51 : decode cX7_begin 51 = .ok (.iconst 0, 1) := by decide +kernel
theorem dX7_begin_52 : decode cX7_begin 52 = .ok (.putfield 64, 3) := by decide +kernel
theorem dX7_begin_55 : decode cX7_begin 55 = .ok (.aload_n 0, 1) := by decide +kernel
theorem dX7_begin_56 : decode cX7_begin 56 = .ok (.iconst 0, 1) := by decide +kernel
theorem dX7_begin_57 : decode cX7_begin 57 = .ok (.putfield 68, 3) := by decide +kernel
theorem dX7_begin_60 : decode cX7_begin 60 = .ok (.aload_n 0, 1) := by decide +kernel
theorem dX7_begin_61 : decode cX7_begin 61 = .ok (.iconst 0, 1) := by decide +kernel
theorem dX7_begin_62 : decode cX7_begin 62 = .ok (.putfield 71, 3) := by decide +kernel
theorem dX7_begin_65 : decode cX7_begin 65 = .ok (.aload_n 0, 1) := by decide +kernel
theorem dX7_begin_66 : decode cX7_begin 66 = .ok (.iconst 0, 1) := by decide +kernel
theorem dX7_begin_67 : decode cX7_begin 67 = .ok (.putfield 74, 3) := by decide +kernel
theorem dX7_begin_70 : decode cX7_begin 70 = .ok (.aload_n 0, 1) := by decide +kernel
theorem dX7_begin_71 : decode cX7_begin 71 = .ok (.iconst 0, 1) := by decide +kernel
theorem dX7_begin_72 : decode cX7_begin 72 = .ok (.putfield 77, 3) := by decide +kernel
theorem dX7_begin_75 : decode cX7_begin 75 = .ok (.aload_n 0, 1) := by decide +kernel
theorem dX7_begin_76 : decode cX7_begin 76 = .ok (.iconst 0, 1) := by decide +kernel
theorem dX7_begin_77 : decode cX7_begin 77 = .ok (.putfield 80, 3) := by decide +kernel
theorem dX7_begin_80 : decode cX7_begin 80 = .ok (.aload_n 0, 1) := by decide +kernel
theorem dX7_begin_81 : decode cX7_begin 81 = .ok (.iconst 0, 1) := by decide +kernel
theorem dX7_begin_82 : decode cX7_begin 82 = .ok (.putfield 83, 3) := by decide +kernel
theorem dX7_begin_85 : decode cX7_begin 85 = .ok (.aload_n 0, 1) := by decide +kernel
theorem dX7_begin_86 : decode cX7_begin 86 = .ok (.iconst 0, 1) := by decide +kernel
theorem dX7_begin_87 : decode cX7_begin 87 = .ok (.putfield 86, 3) := by decide +kernel
theorem dX7_begin_90 : decode cX7_begin 90 = .ok (.aload_n 0, 1) := by decide +kernel
theorem dX7_begin_91 : decode cX7_begin 91 = .ok (.iconst 0, 1) := by decide +kernel
theorem dX7_begin_92 : decode cX7_begin 92 = .ok (.putfield 89, 3) := by decide +kernel
theorem dX7_begin_95 : decode cX7_begin 95 = .ok (.return_, 1) := by decide +kernel
theorem dX7_copyFrom_0 : decode cX7_copyFrom 0 = .ok (.aload_n 0, 1) := by decide +kernel
theorem dX7_copyFrom_1 : decode cX7_copyFrom 1 = .ok (.aload_n 1, 1) := by decide +kernel
theorem dX7_copyFrom_2 : decode cX7_copyFrom 2 = .ok (.getfield 52, 3) := by decide +kernel
theorem dX7_copyFrom_5 : decode cX7_copyFrom 5 = .ok (.putfield 52, 3) := by decide +kernel
theorem dX7_copyFrom_8 : decode cX7_copyFrom 8 = .ok (.iconst 0, 1) := by decide +kernel
theorem dX7_copyFrom_9 : decode cX7_copyFrom 9 = .ok (.istore_n 2, 1) := by decide +kernel
theorem dX7_copyFrom_10 : decode cX7_copyFrom 10 = .ok (.iload_n 2, 1) := by decide +kernel
theorem dX7_copyFrom_11 : decode cX7_copyFrom 11 = .ok (.aload_n 0, 1) := by decide +kernel
theorem dX7_copyFrom_12 : decode cX7_copyFrom 12 = .ok (.getfield 11, 3) := by decide +kernel
theorem dX7_copyFrom_15 : decode cX7_copyFrom 15 = .ok (.arraylength, 1) := by decide +kernel
theorem dX7_copyFrom_16 : decode cX7_copyFrom 16 = .ok (.if_icmp .ge 23, 3) := by decide +kernel
theorem dX7_copyFrom_19 : decode cX7_copyFrom 19 = .ok (.aload_n 0, 1) := by decide +kernel
theorem dX7_copyFrom_20 : decode cX7_copyFrom 20 = .ok (.getfield 11, 3) := by decide +kernel
theorem dX7_copyFrom_23 : decode cX7_copyFrom 23 = .ok (.iload_n 2, 1) := by decide +kernel
theorem dX7_copyFrom_24 : decode cX7_copyFrom 24 = .ok (.aaload, 1) := by decide +kernel
theorem dX7_copyFrom_25 : decode cX7_copyFrom 25 = .ok (.aload_n 1, 1) := by decide +kernel
theorem dX7_copyFrom_26 : decode cX7_copyFrom 26 = .ok (.iload_n 2, 1) := by decide +kernel
theorem dX7_copyFrom_27 : decode cX7_copyFrom 27 = .ok (.invokevirtual 92, 3) := by decide +kernel
theorem dX7_copyFrom_30 : decode cX7_copyFrom 30 = .ok (.invokevirtual 96, 3) := by decide +kernel
theorem dX7_copyFrom_33 : decode cX7_copyFrom 33 = .ok (.iinc 2 1, 3) := by decide +kernel
theorem dX7_copyFrom_36 : decode cX7_copyFrom 36 = .ok (.goto (-26), 3) := by decide +kernel
theorem dX7_copyFrom_39 : decode cX7_copyFrom 39 = .ok (.aload_n 0, 1) := by decide +kernel
theorem dX7_copyFrom_40 : decode cX7_copyFrom 40 = .ok (.getfield 20, 3) := by decide +kernel
theorem dX7_copyFrom_43 : decode cX7_copyFrom 43 = .ok (.aload_n 1, 1) := by decide +kernel
theorem dX7_copyFrom_44 : decode cX7_copyFrom 44 = .ok (.getfield 20, 3) := by decide +kernel
theorem dX7_copyFrom_47 : decode cX7_copyFrom 47 = .ok (.invokevirtual 100, 3) := by decide +kernel
theorem dX7_copyFrom_50 : decode cX7_copyFrom 50 = .ok (.aload_n 0, 1) := by decide +kernel
theorem dX7_copyFrom_51 : decode cX7_copyFrom 51 = .ok (.getfield 27, 3) := by decide +kernel
theorem dX7_copyFrom_54 : decode cX7_copyFrom 54 = .ok (.aload_n 1, 1) := by decide +kernel
theorem dX7_copyFrom_55 : decode cX7_copyFrom 55 = .ok (.getfield 27, 3) := by decide +kernel
theorem dX7_copyFrom_58 : decode cX7_copyFrom 58 = .ok (.invokevirtual 103, 3) := by decide +kernel
theorem dX7_copyFrom_61 : decode cX7_copyFrom 61 = .ok (.aload_n 0, 1) := by decide +kernel
theorem dX7_copyFrom_62 : decode cX7_copyFrom 62 = .ok (.aload_n 1, 1) := by decide +kernel
theorem dX7_copyFrom_63 : decode cX7_copyFrom 63 = .ok (.getfield 60, 3) := by decide +kernel
theorem dX7_copyFrom_66 : decode cX7_copyFrom 66 = .ok (.putfield 60, 3) := by decide +kernel
theorem dX7_copyFrom_69 : decode cX7_copyFrom 69 = .ok (.aload_n 0, 1) := by decide +kernel
theorem dX7_copyFrom_70 : decode cX7_copyFrom 70 = .ok (.aload_n 1, 1) := by decide +kernel
theorem dX7_copyFrom_71 : decode cX7_copyFrom 71 = .ok (.getfield 64, 3) := by decide +kernel
theorem dX7_copyFrom_74 : decode cX7_copyFrom 74 = .ok (.putfield 64, 3) := by decide +kernel
theorem dX7_copyFrom_77 : decode cX7_copyFrom 77 = .ok (.aload_n 0, 1) := by decide +kernel
theorem dX7_copyFrom_78 : decode cX7_copyFrom 78 = .ok (.aload_n 1, 1) := by decide +kernel
theorem dX7_copyFrom_79 : decode cX7_copyFrom 79 = .ok (.getfield 68, 3) := by decide +kernel
theorem dX7_copyFrom_82 : decode cX7_copyFrom 82 = .ok (.putfield 68, 3) := by decide +kernel
theorem dX7_copyFrom_85 : decode cX7_copyFrom 85 = .ok (.aload_n 0, 1) := by decide +kernel
theorem dX7_copyFrom_86 : decode cX7_copyFrom 86 = .ok (.aload_n 1, 1) := by decide +kernel
theorem dX7_copyFrom_87 : decode cX7_copyFrom 87 = .ok (.getfield 71, 3) := by decide +kernel
theorem dX7_copyFrom_90 : decode cX7_copyFrom 90 = .ok (.putfield 71, 3) := by decide +kernel
theorem dX7_copyFrom_93 : decode cX7_copyFrom 93 = .ok (.aload_n 0, 1) := by decide +kernel
theorem dX7_copyFrom_94 : decode cX7_copyFrom 94 = .ok (.aload_n 1, 1) := by decide +kernel
theorem dX7_copyFrom_95 : decode cX7_copyFrom 95 = .ok (.getfield 74, 3) := by decide +kernel
theorem dX7_copyFrom_98 : decode cX7_copyFrom 98 = .ok (.putfield 74, 3) := by decide +kernel
theorem dX7_copyFrom_101 : decode cX7_copyFrom 101 = .ok (.aload_n 0, 1) := by decide +kernel
theorem dX7_copyFrom_102 : decode cX7_copyFrom 102 = .ok (.aload_n 1, 1) := by decide +kernel
theorem dX7_copyFrom_103 : decode cX7_copyFrom 103 = .ok (.getfield 77, 3) := by decide +kernel
theorem dX7_copyFrom_106 : decode cX7_copyFrom 106 = .ok (.putfield 77, 3) := by decide +kernel
theorem dX7_copyFrom_109 : decode cX7_copyFrom 109 = .ok (.aload_n 0, 1) := by decide +kernel
theorem dX7_copyFrom_110 : decode cX7_copyFrom 110 = .ok (.aload_n 1, 1) := by decide +kernel
theorem dX7_copyFrom_111 : decode cX7_copyFrom 111 = .ok (.getfield 80, 3) := by decide +kernel
theorem dX7_copyFrom_114 : decode cX7_copyFrom 114 = .ok (.putfield 80, 3) := by decide +kernel
theorem dX7_copyFrom_117 : decode cX7_copyFrom 117 = .ok (.aload_n 0, 1) := by decide +kernel
theorem dX7_copyFrom_118 : decode cX7_copyFrom 118 = .ok (.aload_n 1, 1) := by decide +kernel
theorem dX7_copyFrom_119 : decode cX7_copyFrom 119 = .ok (.getfield 83, 3) := by decide +kernel
theorem dX7_copyFrom_122 : decode cX7_copyFrom 122 = .ok (.putfield 83, 3) := by decide +kernel
theorem dX7_copyFrom_125 : decode cX7_copyFrom 125 = .ok (.aload_n 0, 1) := by decide +kernel
theorem dX7_copyFrom_126 : decode cX7_copyFrom 126 = .ok (.aload_n 1, 1) := by decide +kernel
theorem dX7_copyFrom_127 : decode cX7_copyFrom 127 = .ok (.getfield 86, 3) := by decide +kernel
theorem dX7_copyFrom_130 : decode cX7_copyFrom 130 = .ok (.putfield 86, 3) := by decide +kernel
theorem dX7_copyFrom_133 : decode cX7_copyFrom 133 = .ok (.aload_n 0, 1) := by decide +kernel
theorem dX7_copyFrom_134 : decode cX7_copyFrom 134 = .ok (.aload_n 1, 1) := by decide +kernel
theorem dX7_copyFrom_135 : decode cX7_copyFrom 135 = .ok (.getfield 89, 3) := by decide +kernel
theorem dX7_copyFrom_138 : decode cX7_copyFrom 138 = .ok (.putfield 89, 3) := by decide +kernel
theorem dX7_copyFrom_141 : decode cX7_copyFrom 141 = .ok (.return_, 1) := by decide +kernel
theorem dX7_at_0 : decode cX7_at 0 = .ok (.aload_n 0, 1) := by decide +kernel
theorem dX7_at_1 : decode cX7_at 1 = .ok (.getfield 11, 3) := by decide +kernel
theorem dX7_at_4 : decode cX7_at 4 = .ok (.iload_n 1, 1) := by decide +kernel
theorem dX7_at_5 : decode cX7_at 5 = .ok (.bipush 7, 2) := by decide +kernel
theorem dX7_at_7 : decode cX7_at 7 = .ok (.iand, 1) := by decide +kernel
theorem dX7_at_8 : decode cX7_at 8 = .ok (.aaload, 1) := by decide +kernel
theorem dX7_at_9 : decode cX7_at 9 = .ok (.areturn, 1) := by decide +kernel
theorem dX7_clock_0 : decode cX7_clock 0 = .ok (.aload_n 0, 1) := by decide +kernel
theorem dX7_clock_1 : decode cX7_clock 1 = .ok (.getfield 52, 3) := by decide +kernel
theorem dX7_clock_4 : decode cX7_clock 4 = .ok (.iload_n 1, 1) := by decide +kernel
theorem dX7_clock_5 : decode cX7_clock 5 = .ok (.aload_n 0, 1) := by decide +kernel
theorem dX7_clock_6 : decode cX7_clock 6 = .ok (.getfield 64, 3) := by decide +kernel
theorem dX7_clock_9 : decode cX7_clock 9 = .ok (.invokevirtual 106, 3) := by decide +kernel
theorem dX7_clock_12 : decode cX7_clock 12 = .ok (.ireturn, 1) := by decide +kernel
theorem dX7_estimate_0 : decode cX7_estimate 0 = .ok (.aload_n 0, 1) := by decide +kernel
theorem dX7_estimate_1 : decode cX7_estimate 1 = .ok (.iload_n 1, 1) := by decide +kernel
theorem dX7_estimate_2 : decode cX7_estimate 2 = .ok (.invokevirtual 110, 3) := by decide +kernel
theorem dX7_estimate_5 : decode cX7_estimate 5 = .ok (.aload_n 0, 1) := by decide +kernel
theorem dX7_estimate_6 : decode cX7_estimate 6 = .ok (.iload_n 1, 1) := by decide +kernel
theorem dX7_estimate_7 : decode cX7_estimate 7 = .ok (.invokevirtual 92, 3) := by decide +kernel
theorem dX7_estimate_10 : decode cX7_estimate 10 = .ok (.getfield 113, 3) := by decide +kernel
theorem dX7_estimate_13 : decode cX7_estimate 13 = .ok (.iadd, 1) := by decide +kernel
theorem dX7_estimate_14 : decode cX7_estimate 14 = .ok (.ireturn, 1) := by decide +kernel
theorem dX7_error_0 : decode cX7_error 0 = .ok (.aload_n 0, 1) := by decide +kernel
theorem dX7_error_1 : decode cX7_error 1 = .ok (.iload_n 1, 1) := by decide +kernel
theorem dX7_error_2 : decode cX7_error 2 = .ok (.invokevirtual 116, 3) := by decide +kernel
theorem dX7_error_5 : decode cX7_error 5 = .ok (.aload_n 0, 1) := by decide +kernel
theorem dX7_error_6 : decode cX7_error 6 = .ok (.aload_n 0, 1) := by decide +kernel
theorem dX7_error_7 : decode cX7_error 7 = .ok (.getfield 68, 3) := by decide +kernel
theorem dX7_error_10 : decode cX7_error 10 = .ok (.invokevirtual 110, 3) := by decide +kernel
theorem dX7_error_13 : decode cX7_error 13 = .ok (.isub, 1) := by decide +kernel
theorem dX7_error_14 : decode cX7_error 14 = .ok (.ireturn, 1) := by decide +kernel
theorem dX7_delay_0 : decode cX7_delay 0 = .ok (.aload_n 0, 1) := by decide +kernel
theorem dX7_delay_1 : decode cX7_delay 1 = .ok (.getfield 52, 3) := by decide +kernel
theorem dX7_delay_4 : decode cX7_delay 4 = .ok (.iload_n 1, 1) := by decide +kernel
theorem dX7_delay_5 : decode cX7_delay 5 = .ok (.iload_n 2, 1) := by decide +kernel
theorem dX7_delay_6 : decode cX7_delay 6 = .ok (.invokevirtual 119, 3) := by decide +kernel
theorem dX7_delay_9 : decode cX7_delay 9 = .ok (.ireturn, 1) := by decide +kernel
theorem dX7_isCut_0 : decode cX7_isCut 0 = .ok (.aload_n 0, 1) := by decide +kernel
theorem dX7_isCut_1 : decode cX7_isCut 1 = .ok (.getfield 60, 3) := by decide +kernel
theorem dX7_isCut_4 : decode cX7_isCut 4 = .ok (.iload_n 1, 1) := by decide +kernel
theorem dX7_isCut_5 : decode cX7_isCut 5 = .ok (.iload_n 2, 1) := by decide +kernel
theorem dX7_isCut_6 : decode cX7_isCut 6 = .ok (.invokestatic 122, 3) := by decide +kernel
theorem dX7_isCut_9 : decode cX7_isCut 9 = .ok (.lshr, 1) := by decide +kernel
theorem dX7_isCut_10 : decode cX7_isCut 10 = .ok (.lconst 1, 1) := by decide +kernel
theorem dX7_isCut_11 : decode cX7_isCut 11 = .ok (.land, 1) := by decide +kernel
theorem dX7_isCut_12 : decode cX7_isCut 12 = .ok (.lconst 1, 1) := by decide +kernel
theorem dX7_isCut_13 : decode cX7_isCut 13 = .ok (.lcmp, 1) := by decide +kernel
theorem dX7_isCut_14 : decode cX7_isCut 14 = .ok (.ifCond .ne 7, 3) := by decide +kernel
theorem dX7_isCut_21 : decode cX7_isCut 21 = .ok (.iconst 0, 1) := by decide +kernel
theorem dX7_isCut_22 : decode cX7_isCut 22 = .ok (.ireturn, 1) := by decide +kernel
theorem dX7_countUp_0 : decode cX7_countUp 0 = .ok (.iconst 0, 1) := by decide +kernel
theorem dX7_countUp_1 : decode cX7_countUp 1 = .ok (.istore_n 1, 1) := by decide +kernel
theorem dX7_countUp_2 : decode cX7_countUp 2 = .ok (.iconst 0, 1) := by decide +kernel
theorem dX7_countUp_3 : decode cX7_countUp 3 = .ok (.istore_n 2, 1) := by decide +kernel
theorem dX7_countUp_4 : decode cX7_countUp 4 = .ok (.iload_n 2, 1) := by decide +kernel
theorem dX7_countUp_5 : decode cX7_countUp 5 = .ok (.aload_n 0, 1) := by decide +kernel
theorem dX7_countUp_6 : decode cX7_countUp 6 = .ok (.getfield 52, 3) := by decide +kernel
theorem dX7_countUp_9 : decode cX7_countUp 9 = .ok (.getfield 127, 3) := by decide +kernel
theorem dX7_countUp_12 : decode cX7_countUp 12 = .ok (.if_icmp .ge 23, 3) := by decide +kernel
theorem dX7_countUp_15 : decode cX7_countUp 15 = .ok (.aload_n 0, 1) := by decide +kernel
theorem dX7_countUp_16 : decode cX7_countUp 16 = .ok (.iload_n 2, 1) := by decide +kernel
theorem dX7_countUp_17 : decode cX7_countUp 17 = .ok (.invokevirtual 92, 3) := by decide +kernel
theorem dX7_countUp_20 : decode cX7_countUp 20 = .ok (.getfield 129, 3) := by decide +kernel
theorem dX7_countUp_23 : decode cX7_countUp 23 = .ok (.ifCond .eq 6, 3) := by decide +kernel
theorem dX7_countUp_26 : decode cX7_countUp 26 = .ok (.iinc 1 1, 3) := by decide +kernel
theorem dX7_countUp_29 : decode cX7_countUp 29 = .ok (.iinc 2 1, 3) := by decide +kernel
theorem dX7_countUp_32 : decode cX7_countUp 32 = .ok (.goto (-28), 3) := by decide +kernel
theorem dX7_countUp_35 : decode cX7_countUp 35 = .ok (.iload_n 1, 1) := by decide +kernel
theorem dX7_countUp_36 : decode cX7_countUp 36 = .ok (.ireturn, 1) := by decide +kernel
theorem dX7_countSongs_0 : decode cX7_countSongs 0 = .ok (.iconst 0, 1) := by decide +kernel
theorem dX7_countSongs_1 : decode cX7_countSongs 1 = .ok (.istore_n 1, 1) := by decide +kernel
theorem dX7_countSongs_2 : decode cX7_countSongs 2 = .ok (.iconst 0, 1) := by decide +kernel
theorem dX7_countSongs_3 : decode cX7_countSongs 3 = .ok (.istore_n 2, 1) := by decide +kernel
theorem dX7_countSongs_4 : decode cX7_countSongs 4 = .ok (.iload_n 2, 1) := by decide +kernel
theorem dX7_countSongs_5 : decode cX7_countSongs 5 = .ok (.aload_n 0, 1) := by decide +kernel
theorem dX7_countSongs_6 : decode cX7_countSongs 6 = .ok (.getfield 52, 3) := by decide +kernel
theorem dX7_countSongs_9 : decode cX7_countSongs 9 = .ok (.getfield 127, 3) := by decide +kernel
theorem dX7_countSongs_12 : decode cX7_countSongs 12 = .ok (.if_icmp .ge 31, 3) := by decide +kernel
theorem dX7_countSongs_15 : decode cX7_countSongs 15 = .ok (.aload_n 0, 1) := by decide +kernel
theorem dX7_countSongs_16 : decode cX7_countSongs 16 = .ok (.iload_n 2, 1) := by decide +kernel
theorem dX7_countSongs_17 : decode cX7_countSongs 17 = .ok (.invokevirtual 92, 3) := by decide +kernel
theorem dX7_countSongs_20 : decode cX7_countSongs 20 = .ok (.getfield 129, 3) := by decide +kernel
theorem dX7_countSongs_23 : decode cX7_countSongs 23 = .ok (.ifCond .eq 14, 3) := by decide +kernel
theorem dX7_countSongs_26 : decode cX7_countSongs 26 = .ok (.aload_n 0, 1) := by decide +kernel
theorem dX7_countSongs_27 : decode cX7_countSongs 27 = .ok (.iload_n 2, 1) := by decide +kernel
theorem dX7_countSongs_28 : decode cX7_countSongs 28 = .ok (.invokevirtual 133, 3) := by decide +kernel
theorem dX7_countSongs_31 : decode cX7_countSongs 31 = .ok (.ifCond .eq 6, 3) := by decide +kernel
theorem dX7_countSongs_34 : decode cX7_countSongs 34 = .ok (.iinc 1 1, 3) := by decide +kernel
theorem dX7_countSongs_37 : decode cX7_countSongs 37 = .ok (.iinc 2 1, 3) := by decide +kernel
theorem dX7_countSongs_40 : decode cX7_countSongs 40 = .ok (.goto (-36), 3) := by decide +kernel
theorem dX7_countSongs_43 : decode cX7_countSongs 43 = .ok (.iload_n 1, 1) := by decide +kernel
theorem dX7_countSongs_44 : decode cX7_countSongs 44 = .ok (.ireturn, 1) := by decide +kernel
theorem dX7_isFirstWithItsSong_0 : decode cX7_isFirstWithItsSong 0 = .ok (.iconst 0, 1) := by decide +kernel
theorem dX7_isFirstWithItsSong_1 : decode cX7_isFirstWithItsSong 1 = .ok (.istore_n 2, 1) := by decide +kernel
theorem dX7_isFirstWithItsSong_2 : decode cX7_isFirstWithItsSong 2 = .ok (.iload_n 2, 1) := by decide +kernel
theorem dX7_isFirstWithItsSong_3 : decode cX7_isFirstWithItsSong 3 = .ok (.iload_n 1, 1) := by decide +kernel
theorem dX7_isFirstWithItsSong_4 : decode cX7_isFirstWithItsSong 4 = .ok (.if_icmp .ge 41, 3) := by decide +kernel
theorem dX7_isFirstWithItsSong_45 : decode cX7_isFirstWithItsSong 45 = .ok (.iconst 1, 1) := by decide +kernel
theorem dX7_isFirstWithItsSong_46 : decode cX7_isFirstWithItsSong 46 = .ok (.ireturn, 1) := by decide +kernel
theorem dX7_greatestOpenDelay_0 : decode cX7_greatestOpenDelay 0 = .ok (.iconst 0, 1) := by decide +kernel
theorem dX7_greatestOpenDelay_1 : decode cX7_greatestOpenDelay 1 = .ok (.istore_n 1, 1) := by decide +kernel
theorem dX7_greatestOpenDelay_2 : decode cX7_greatestOpenDelay 2 = .ok (.iconst 0, 1) := by decide +kernel
theorem dX7_greatestOpenDelay_3 : decode cX7_greatestOpenDelay 3 = .ok (.istore_n 2, 1) := by decide +kernel
theorem dX7_greatestOpenDelay_4 : decode cX7_greatestOpenDelay 4 = .ok (.iload_n 2, 1) := by decide +kernel
theorem dX7_greatestOpenDelay_5 : decode cX7_greatestOpenDelay 5 = .ok (.aload_n 0, 1) := by decide +kernel
theorem dX7_greatestOpenDelay_6 : decode cX7_greatestOpenDelay 6 = .ok (.getfield 52, 3) := by decide +kernel
theorem dX7_greatestOpenDelay_9 : decode cX7_greatestOpenDelay 9 = .ok (.getfield 127, 3) := by decide +kernel
theorem dX7_greatestOpenDelay_12 : decode cX7_greatestOpenDelay 12 = .ok (.if_icmp .ge 48, 3) := by decide +kernel
theorem dX7_greatestOpenDelay_15 : decode cX7_greatestOpenDelay 15 = .ok (.iconst 0, 1) := by decide +kernel
theorem dX7_greatestOpenDelay_16 : decode cX7_greatestOpenDelay 16 = .ok (.istore_n 3, 1) := by decide +kernel
theorem dX7_greatestOpenDelay_17 : decode cX7_greatestOpenDelay 17 = .ok (.iload_n 3, 1) := by decide +kernel
theorem dX7_greatestOpenDelay_18 : decode cX7_greatestOpenDelay 18 = .ok (.aload_n 0, 1) := by decide +kernel
theorem dX7_greatestOpenDelay_19 : decode cX7_greatestOpenDelay 19 = .ok (.getfield 52, 3) := by decide +kernel
theorem dX7_greatestOpenDelay_22 : decode cX7_greatestOpenDelay 22 = .ok (.getfield 127, 3) := by decide +kernel
theorem dX7_greatestOpenDelay_25 : decode cX7_greatestOpenDelay 25 = .ok (.if_icmp .ge 29, 3) := by decide +kernel
theorem dX7_greatestOpenDelay_28 : decode cX7_greatestOpenDelay 28 = .ok (.aload_n 0, 1) := by decide +kernel
theorem dX7_greatestOpenDelay_29 : decode cX7_greatestOpenDelay 29 = .ok (.iload_n 2, 1) := by decide +kernel
theorem dX7_greatestOpenDelay_30 : decode cX7_greatestOpenDelay 30 = .ok (.iload_n 3, 1) := by decide +kernel
theorem dX7_greatestOpenDelay_31 : decode cX7_greatestOpenDelay 31 = .ok (.invokevirtual 140, 3) := by decide +kernel
theorem dX7_greatestOpenDelay_34 : decode cX7_greatestOpenDelay 34 = .ok (.ifCond .ne 14, 3) := by decide +kernel
theorem dX7_greatestOpenDelay_37 : decode cX7_greatestOpenDelay 37 = .ok (.iload_n 1, 1) := by decide +kernel
theorem dX7_greatestOpenDelay_38 : decode cX7_greatestOpenDelay 38 = .ok (.aload_n 0, 1) := by decide +kernel
theorem dX7_greatestOpenDelay_39 : decode cX7_greatestOpenDelay 39 = .ok (.iload_n 2, 1) := by decide +kernel
theorem dX7_greatestOpenDelay_40 : decode cX7_greatestOpenDelay 40 = .ok (.iload_n 3, 1) := by decide +kernel
theorem dX7_greatestOpenDelay_41 : decode cX7_greatestOpenDelay 41 = .ok (.invokevirtual 144, 3) := by decide +kernel
theorem dX7_greatestOpenDelay_44 : decode cX7_greatestOpenDelay 44 = .ok (.invokestatic 147, 3) := by decide +kernel
theorem dX7_greatestOpenDelay_47 : decode cX7_greatestOpenDelay 47 = .ok (.istore_n 1, 1) := by decide +kernel
theorem dX7_greatestOpenDelay_48 : decode cX7_greatestOpenDelay 48 = .ok (.iinc 3 1, 3) := by decide +kernel
theorem dX7_greatestOpenDelay_51 : decode cX7_greatestOpenDelay 51 = .ok (.goto (-34), 3) := by decide +kernel
theorem dX7_greatestOpenDelay_54 : decode cX7_greatestOpenDelay 54 = .ok (.iinc 2 1, 3) := by decide +kernel
theorem dX7_greatestOpenDelay_57 : decode cX7_greatestOpenDelay 57 = .ok (.goto (-53), 3) := by decide +kernel
theorem dX7_greatestOpenDelay_60 : decode cX7_greatestOpenDelay 60 = .ok (.iload_n 1, 1) := by decide +kernel
theorem dX7_greatestOpenDelay_61 : decode cX7_greatestOpenDelay 61 = .ok (.ireturn, 1) := by decide +kernel
theorem dX7_margin_0 : decode cX7_margin 0 = .ok (.aload_n 0, 1) := by decide +kernel
theorem dX7_margin_1 : decode cX7_margin 1 = .ok (.getfield 52, 3) := by decide +kernel
theorem dX7_margin_4 : decode cX7_margin 4 = .ok (.getfield 152, 3) := by decide +kernel
theorem dX7_margin_7 : decode cX7_margin 7 = .ok (.astore_n 2, 1) := by decide +kernel
theorem dX7_margin_8 : decode cX7_margin 8 = .ok (.aload_n 0, 1) := by decide +kernel
theorem dX7_margin_9 : decode cX7_margin 9 = .ok (.invokevirtual 156, 3) := by decide +kernel
theorem dX7_margin_12 : decode cX7_margin 12 = .ok (.istore_n 3, 1) := by decide +kernel
theorem dX7_margin_13 : decode cX7_margin 13 = .ok (.aload_n 2, 1) := by decide +kernel
theorem dX7_margin_14 : decode cX7_margin 14 = .ok (.ifnonnull 9, 3) := by decide +kernel
theorem dX7_margin_17 : decode cX7_margin 17 = .ok (.iconst 2, 1) := by decide +kernel
theorem dX7_margin_18 : decode cX7_margin 18 = .ok (.iload_n 3, 1) := by decide +kernel
theorem dX7_margin_19 : decode cX7_margin 19 = .ok (.imul, 1) := by decide +kernel
theorem dX7_margin_20 : decode cX7_margin 20 = .ok (.iconst 1, 1) := by decide +kernel
theorem dX7_margin_21 : decode cX7_margin 21 = .ok (.iadd, 1) := by decide +kernel
theorem dX7_margin_22 : decode cX7_margin 22 = .ok (.ireturn, 1) := by decide +kernel
theorem dX7_count_0 : decode cX7_count 0 = .ok (.iload_n 1, 1) := by decide +kernel
theorem dX7_count_1 : decode cX7_count 1 = .ok (.tableswitch 129 0 11 #[63, 71, 76, 81, 89, 94, 99, 104, 109, 114, 119, 124], 63) := by decide +kernel
theorem dX7_count_64 : decode cX7_count 64 = .ok (.aload_n 0, 1) := by decide +kernel
theorem dX7_count_65 : decode cX7_count 65 = .ok (.getfield 52, 3) := by decide +kernel
theorem dX7_count_68 : decode cX7_count 68 = .ok (.getfield 127, 3) := by decide +kernel
theorem dX7_count_71 : decode cX7_count 71 = .ok (.ireturn, 1) := by decide +kernel
theorem dX7_count_72 : decode cX7_count 72 = .ok (.aload_n 0, 1) := by decide +kernel
theorem dX7_count_73 : decode cX7_count 73 = .ok (.getfield 64, 3) := by decide +kernel
theorem dX7_count_76 : decode cX7_count 76 = .ok (.ireturn, 1) := by decide +kernel
theorem dX7_count_77 : decode cX7_count 77 = .ok (.aload_n 0, 1) := by decide +kernel
theorem dX7_count_78 : decode cX7_count 78 = .ok (.getfield 68, 3) := by decide +kernel
theorem dX7_count_81 : decode cX7_count 81 = .ok (.ireturn, 1) := by decide +kernel
theorem dX7_count_82 : decode cX7_count 82 = .ok (.aload_n 0, 1) := by decide +kernel
theorem dX7_count_83 : decode cX7_count 83 = .ok (.getfield 20, 3) := by decide +kernel
theorem dX7_count_86 : decode cX7_count 86 = .ok (.getfield 172, 3) := by decide +kernel
theorem dX7_count_89 : decode cX7_count 89 = .ok (.ireturn, 1) := by decide +kernel
theorem dX7_count_90 : decode cX7_count 90 = .ok (.aload_n 0, 1) := by decide +kernel
theorem dX7_count_91 : decode cX7_count 91 = .ok (.getfield 71, 3) := by decide +kernel
theorem dX7_count_94 : decode cX7_count 94 = .ok (.ireturn, 1) := by decide +kernel
theorem dX7_count_95 : decode cX7_count 95 = .ok (.aload_n 0, 1) := by decide +kernel
theorem dX7_count_96 : decode cX7_count 96 = .ok (.getfield 74, 3) := by decide +kernel
theorem dX7_count_99 : decode cX7_count 99 = .ok (.ireturn, 1) := by decide +kernel
theorem dX7_count_100 : decode cX7_count 100 = .ok (.aload_n 0, 1) := by decide +kernel
theorem dX7_count_101 : decode cX7_count 101 = .ok (.getfield 77, 3) := by decide +kernel
theorem dX7_count_104 : decode cX7_count 104 = .ok (.ireturn, 1) := by decide +kernel
theorem dX7_count_105 : decode cX7_count 105 = .ok (.aload_n 0, 1) := by decide +kernel
theorem dX7_count_106 : decode cX7_count 106 = .ok (.getfield 80, 3) := by decide +kernel
theorem dX7_count_109 : decode cX7_count 109 = .ok (.ireturn, 1) := by decide +kernel
theorem dX7_count_110 : decode cX7_count 110 = .ok (.aload_n 0, 1) := by decide +kernel
theorem dX7_count_111 : decode cX7_count 111 = .ok (.getfield 83, 3) := by decide +kernel
theorem dX7_count_114 : decode cX7_count 114 = .ok (.ireturn, 1) := by decide +kernel
theorem dX7_count_115 : decode cX7_count 115 = .ok (.aload_n 0, 1) := by decide +kernel
theorem dX7_count_116 : decode cX7_count 116 = .ok (.invokevirtual 175, 3) := by decide +kernel
theorem dX7_count_119 : decode cX7_count 119 = .ok (.ireturn, 1) := by decide +kernel
theorem dX7_count_120 : decode cX7_count 120 = .ok (.aload_n 0, 1) := by decide +kernel
theorem dX7_count_121 : decode cX7_count 121 = .ok (.getfield 86, 3) := by decide +kernel
theorem dX7_count_124 : decode cX7_count 124 = .ok (.ireturn, 1) := by decide +kernel
theorem dX7_count_125 : decode cX7_count 125 = .ok (.aload_n 0, 1) := by decide +kernel
theorem dX7_count_126 : decode cX7_count 126 = .ok (.getfield 89, 3) := by decide +kernel
theorem dX7_count_129 : decode cX7_count 129 = .ok (.ireturn, 1) := by decide +kernel
theorem dX7_count_130 : decode cX7_count 130 = .ok (.aload_n 0, 1) := by decide +kernel
theorem dX7_count_131 : decode cX7_count 131 = .ok (.iconst 1, 1) := by decide +kernel
theorem dX7_count_132 : decode cX7_count 132 = .ok (.invokevirtual 178, 3) := by decide +kernel
theorem dX7_count_135 : decode cX7_count 135 = .ok (.ireturn, 1) := by decide +kernel
theorem dX7_tellPlayer_0 : decode cX7_tellPlayer 0 = .ok (.aload_n 0, 1) := by decide +kernel
theorem dX7_tellPlayer_1 : decode cX7_tellPlayer 1 = .ok (.iload_n 1, 1) := by decide +kernel
theorem dX7_tellPlayer_2 : decode cX7_tellPlayer 2 = .ok (.invokevirtual 92, 3) := by decide +kernel
theorem dX7_tellPlayer_5 : decode cX7_tellPlayer 5 = .ok (.astore_n 3, 1) := by decide +kernel
theorem dX7_tellPlayer_6 : decode cX7_tellPlayer 6 = .ok (.iload_n 2, 1) := by decide +kernel
theorem dX7_tellPlayer_7 : decode cX7_tellPlayer 7 = .ok (.tableswitch 103 0 8 #[49, 62, 68, 73, 78, 83, 88, 93, 98], 49) := by decide +kernel
theorem dX7_tellPlayer_56 : decode cX7_tellPlayer 56 = .ok (.aload_n 3, 1) := by decide +kernel
theorem dX7_tellPlayer_57 : decode cX7_tellPlayer 57 = .ok (.getfield 129, 3) := by decide +kernel
theorem dX7_tellPlayer_60 : decode cX7_tellPlayer 60 = .ok (.ifCond .eq 7, 3) := by decide +kernel
theorem dX7_tellPlayer_63 : decode cX7_tellPlayer 63 = .ok (.iconst 1, 1) := by decide +kernel
theorem dX7_tellPlayer_64 : decode cX7_tellPlayer 64 = .ok (.goto 4, 3) := by decide +kernel
theorem dX7_tellPlayer_68 : decode cX7_tellPlayer 68 = .ok (.ireturn, 1) := by decide +kernel
theorem dX7_tellPlayer_69 : decode cX7_tellPlayer 69 = .ok (.aload_n 0, 1) := by decide +kernel
theorem dX7_tellPlayer_70 : decode cX7_tellPlayer 70 = .ok (.iload_n 1, 1) := by decide +kernel
theorem dX7_tellPlayer_71 : decode cX7_tellPlayer 71 = .ok (.invokevirtual 110, 3) := by decide +kernel
theorem dX7_tellPlayer_74 : decode cX7_tellPlayer 74 = .ok (.ireturn, 1) := by decide +kernel
theorem dX7_tellPlayer_75 : decode cX7_tellPlayer 75 = .ok (.aload_n 3, 1) := by decide +kernel
theorem dX7_tellPlayer_76 : decode cX7_tellPlayer 76 = .ok (.getfield 113, 3) := by decide +kernel
theorem dX7_tellPlayer_79 : decode cX7_tellPlayer 79 = .ok (.ireturn, 1) := by decide +kernel
theorem dX7_tellPlayer_80 : decode cX7_tellPlayer 80 = .ok (.aload_n 3, 1) := by decide +kernel
theorem dX7_tellPlayer_81 : decode cX7_tellPlayer 81 = .ok (.getfield 137, 3) := by decide +kernel
theorem dX7_tellPlayer_84 : decode cX7_tellPlayer 84 = .ok (.ireturn, 1) := by decide +kernel
theorem dX7_tellPlayer_85 : decode cX7_tellPlayer 85 = .ok (.aload_n 3, 1) := by decide +kernel
theorem dX7_tellPlayer_86 : decode cX7_tellPlayer 86 = .ok (.getfield 180, 3) := by decide +kernel
theorem dX7_tellPlayer_89 : decode cX7_tellPlayer 89 = .ok (.ireturn, 1) := by decide +kernel
theorem dX7_tellPlayer_90 : decode cX7_tellPlayer 90 = .ok (.aload_n 3, 1) := by decide +kernel
theorem dX7_tellPlayer_91 : decode cX7_tellPlayer 91 = .ok (.getfield 183, 3) := by decide +kernel
theorem dX7_tellPlayer_94 : decode cX7_tellPlayer 94 = .ok (.ireturn, 1) := by decide +kernel
theorem dX7_tellPlayer_95 : decode cX7_tellPlayer 95 = .ok (.aload_n 3, 1) := by decide +kernel
theorem dX7_tellPlayer_96 : decode cX7_tellPlayer 96 = .ok (.getfield 186, 3) := by decide +kernel
theorem dX7_tellPlayer_99 : decode cX7_tellPlayer 99 = .ok (.ireturn, 1) := by decide +kernel
theorem dX7_tellPlayer_100 : decode cX7_tellPlayer 100 = .ok (.aload_n 3, 1) := by decide +kernel
theorem dX7_tellPlayer_101 : decode cX7_tellPlayer 101 = .ok (.getfield 187, 3) := by decide +kernel
theorem dX7_tellPlayer_104 : decode cX7_tellPlayer 104 = .ok (.ireturn, 1) := by decide +kernel
theorem dX7_tellPlayer_105 : decode cX7_tellPlayer 105 = .ok (.aload_n 3, 1) := by decide +kernel
theorem dX7_tellPlayer_106 : decode cX7_tellPlayer 106 = .ok (.getfield 188, 3) := by decide +kernel
theorem dX7_tellPlayer_109 : decode cX7_tellPlayer 109 = .ok (.ireturn, 1) := by decide +kernel
theorem dX7_tellPlayer_110 : decode cX7_tellPlayer 110 = .ok (.aload_n 0, 1) := by decide +kernel
theorem dX7_tellPlayer_111 : decode cX7_tellPlayer 111 = .ok (.iload_n 1, 1) := by decide +kernel
theorem dX7_tellPlayer_112 : decode cX7_tellPlayer 112 = .ok (.invokevirtual 191, 3) := by decide +kernel
theorem dX7_tellPlayer_115 : decode cX7_tellPlayer 115 = .ok (.ireturn, 1) := by decide +kernel
theorem dX7_canPropose_0 : decode cX7_canPropose 0 = .ok (.aload_n 0, 1) := by decide +kernel
theorem dX7_canPropose_1 : decode cX7_canPropose 1 = .ok (.aload_n 0, 1) := by decide +kernel
theorem dX7_canPropose_2 : decode cX7_canPropose 2 = .ok (.getfield 68, 3) := by decide +kernel
theorem dX7_canPropose_5 : decode cX7_canPropose 5 = .ok (.invokevirtual 92, 3) := by decide +kernel
theorem dX7_canPropose_8 : decode cX7_canPropose 8 = .ok (.getfield 129, 3) := by decide +kernel
theorem dX7_canPropose_11 : decode cX7_canPropose 11 = .ok (.ifCond .eq 17, 3) := by decide +kernel
theorem dX7_canPropose_14 : decode cX7_canPropose 14 = .ok (.aload_n 0, 1) := by decide +kernel
theorem dX7_canPropose_15 : decode cX7_canPropose 15 = .ok (.getfield 27, 3) := by decide +kernel
theorem dX7_canPropose_18 : decode cX7_canPropose 18 = .ok (.getfield 204, 3) := by decide +kernel
theorem dX7_canPropose_21 : decode cX7_canPropose 21 = .ok (.ifCond .eq 7, 3) := by decide +kernel
theorem dX7_canPropose_24 : decode cX7_canPropose 24 = .ok (.iconst 1, 1) := by decide +kernel
theorem dX7_canPropose_25 : decode cX7_canPropose 25 = .ok (.goto 4, 3) := by decide +kernel
theorem dX7_canPropose_29 : decode cX7_canPropose 29 = .ok (.ireturn, 1) := by decide +kernel
theorem dX7_startProposal_0 : decode cX7_startProposal 0 = .ok (.aload_n 0, 1) := by decide +kernel
theorem dX7_startProposal_1 : decode cX7_startProposal 1 = .ok (.getfield 27, 3) := by decide +kernel
theorem dX7_startProposal_4 : decode cX7_startProposal 4 = .ok (.iload_n 1, 1) := by decide +kernel
theorem dX7_startProposal_5 : decode cX7_startProposal 5 = .ok (.aload_n 0, 1) := by decide +kernel
theorem dX7_startProposal_6 : decode cX7_startProposal 6 = .ok (.aload_n 0, 1) := by decide +kernel
theorem dX7_startProposal_7 : decode cX7_startProposal 7 = .ok (.getfield 68, 3) := by decide +kernel
theorem dX7_startProposal_10 : decode cX7_startProposal 10 = .ok (.invokevirtual 110, 3) := by decide +kernel
theorem dX7_startProposal_13 : decode cX7_startProposal 13 = .ok (.iload_n 2, 1) := by decide +kernel
theorem dX7_startProposal_14 : decode cX7_startProposal 14 = .ok (.iadd, 1) := by decide +kernel
theorem dX7_startProposal_15 : decode cX7_startProposal 15 = .ok (.aload_n 0, 1) := by decide +kernel
theorem dX7_startProposal_16 : decode cX7_startProposal 16 = .ok (.getfield 64, 3) := by decide +kernel
theorem dX7_startProposal_19 : decode cX7_startProposal 19 = .ok (.aload_n 0, 1) := by decide +kernel
theorem dX7_startProposal_20 : decode cX7_startProposal 20 = .ok (.getfield 52, 3) := by decide +kernel
theorem dX7_startProposal_23 : decode cX7_startProposal 23 = .ok (.getfield 207, 3) := by decide +kernel
theorem dX7_startProposal_26 : decode cX7_startProposal 26 = .ok (.iadd, 1) := by decide +kernel
theorem dX7_startProposal_27 : decode cX7_startProposal 27 = .ok (.aload_n 0, 1) := by decide +kernel
theorem dX7_startProposal_28 : decode cX7_startProposal 28 = .ok (.getfield 68, 3) := by decide +kernel
theorem dX7_startProposal_31 : decode cX7_startProposal 31 = .ok (.invokevirtual 210, 3) := by decide +kernel
theorem dX7_startProposal_34 : decode cX7_startProposal 34 = .ok (.aload_n 0, 1) := by decide +kernel
theorem dX7_startProposal_35 : decode cX7_startProposal 35 = .ok (.dup, 1) := by decide +kernel
theorem dX7_startProposal_36 : decode cX7_startProposal 36 = .ok (.getfield 77, 3) := by decide +kernel
theorem dX7_startProposal_39 : decode cX7_startProposal 39 = .ok (.iconst 1, 1) := by decide +kernel
theorem dX7_startProposal_40 : decode cX7_startProposal 40 = .ok (.iadd, 1) := by decide +kernel
theorem dX7_startProposal_41 : decode cX7_startProposal 41 = .ok (.putfield 77, 3) := by decide +kernel
theorem dX7_startProposal_44 : decode cX7_startProposal 44 = .ok (.aload_n 0, 1) := by decide +kernel
theorem dX7_startProposal_45 : decode cX7_startProposal 45 = .ok (.aload_n 0, 1) := by decide +kernel
theorem dX7_startProposal_46 : decode cX7_startProposal 46 = .ok (.getfield 68, 3) := by decide +kernel
theorem dX7_startProposal_49 : decode cX7_startProposal 49 = .ok (.invokevirtual 92, 3) := by decide +kernel
theorem dX7_startProposal_52 : decode cX7_startProposal 52 = .ok (.aload_n 0, 1) := by decide +kernel
theorem dX7_startProposal_53 : decode cX7_startProposal 53 = .ok (.getfield 77, 3) := by decide +kernel
theorem dX7_startProposal_56 : decode cX7_startProposal 56 = .ok (.iconst 1, 1) := by decide +kernel
theorem dX7_startProposal_57 : decode cX7_startProposal 57 = .ok (.isub, 1) := by decide +kernel
theorem dX7_startProposal_58 : decode cX7_startProposal 58 = .ok (.iload_n 1, 1) := by decide +kernel
theorem dX7_startProposal_59 : decode cX7_startProposal 59 = .ok (.aload_n 0, 1) := by decide +kernel
theorem dX7_startProposal_60 : decode cX7_startProposal 60 = .ok (.getfield 27, 3) := by decide +kernel
theorem dX7_startProposal_63 : decode cX7_startProposal 63 = .ok (.getfield 214, 3) := by decide +kernel
theorem dX7_startProposal_66 : decode cX7_startProposal 66 = .ok (.iconst 1, 1) := by decide +kernel
theorem dX7_startProposal_67 : decode cX7_startProposal 67 = .ok (.invokevirtual 217, 3) := by decide +kernel
theorem dX7_startProposal_70 : decode cX7_startProposal 70 = .ok (.aload_n 0, 1) := by decide +kernel
theorem dX7_startProposal_71 : decode cX7_startProposal 71 = .ok (.iconst 2, 1) := by decide +kernel
theorem dX7_startProposal_72 : decode cX7_startProposal 72 = .ok (.invokevirtual 220, 3) := by decide +kernel
theorem dX7_startProposal_75 : decode cX7_startProposal 75 = .ok (.aload_n 0, 1) := by decide +kernel
theorem dX7_startProposal_76 : decode cX7_startProposal 76 = .ok (.invokevirtual 223, 3) := by decide +kernel
theorem dX7_startProposal_79 : decode cX7_startProposal 79 = .ok (.return_, 1) := by decide +kernel
theorem dX7_makeConductor_0 : decode cX7_makeConductor 0 = .ok (.aload_n 0, 1) := by decide +kernel
theorem dX7_makeConductor_1 : decode cX7_makeConductor 1 = .ok (.iload_n 1, 1) := by decide +kernel
theorem dX7_makeConductor_2 : decode cX7_makeConductor 2 = .ok (.putfield 68, 3) := by decide +kernel
theorem dX7_makeConductor_5 : decode cX7_makeConductor 5 = .ok (.iconst 0, 1) := by decide +kernel
theorem dX7_makeConductor_6 : decode cX7_makeConductor 6 = .ok (.istore_n 2, 1) := by decide +kernel
theorem dX7_makeConductor_7 : decode cX7_makeConductor 7 = .ok (.iload_n 2, 1) := by decide +kernel
theorem dX7_makeConductor_8 : decode cX7_makeConductor 8 = .ok (.aload_n 0, 1) := by decide +kernel
theorem dX7_makeConductor_9 : decode cX7_makeConductor 9 = .ok (.getfield 11, 3) := by decide +kernel
theorem dX7_makeConductor_12 : decode cX7_makeConductor 12 = .ok (.arraylength, 1) := by decide +kernel
theorem dX7_makeConductor_13 : decode cX7_makeConductor 13 = .ok (.if_icmp .ge 18, 3) := by decide +kernel
theorem dX7_makeConductor_16 : decode cX7_makeConductor 16 = .ok (.aload_n 0, 1) := by decide +kernel
theorem dX7_makeConductor_17 : decode cX7_makeConductor 17 = .ok (.iload_n 2, 1) := by decide +kernel
theorem dX7_makeConductor_18 : decode cX7_makeConductor 18 = .ok (.invokevirtual 92, 3) := by decide +kernel
theorem dX7_makeConductor_21 : decode cX7_makeConductor 21 = .ok (.iconst 0, 1) := by decide +kernel
theorem dX7_makeConductor_22 : decode cX7_makeConductor 22 = .ok (.putfield 113, 3) := by decide +kernel
theorem dX7_makeConductor_25 : decode cX7_makeConductor 25 = .ok (.iinc 2 1, 3) := by decide +kernel
theorem dX7_makeConductor_28 : decode cX7_makeConductor 28 = .ok (.goto (-21), 3) := by decide +kernel
theorem dX7_makeConductor_31 : decode cX7_makeConductor 31 = .ok (.return_, 1) := by decide +kernel
theorem dX7_tick_0 : decode cX7_tick 0 = .ok (.aload_n 0, 1) := by decide +kernel
theorem dX7_tick_1 : decode cX7_tick 1 = .ok (.dup, 1) := by decide +kernel
theorem dX7_tick_2 : decode cX7_tick 2 = .ok (.getfield 64, 3) := by decide +kernel
theorem dX7_tick_5 : decode cX7_tick 5 = .ok (.iconst 1, 1) := by decide +kernel
theorem dX7_tick_6 : decode cX7_tick 6 = .ok (.iadd, 1) := by decide +kernel
theorem dX7_tick_7 : decode cX7_tick 7 = .ok (.putfield 64, 3) := by decide +kernel
theorem dX7_tick_10 : decode cX7_tick 10 = .ok (.aload_n 0, 1) := by decide +kernel
theorem dX7_tick_11 : decode cX7_tick 11 = .ok (.getfield 20, 3) := by decide +kernel
theorem dX7_tick_14 : decode cX7_tick 14 = .ok (.aload_n 0, 1) := by decide +kernel
theorem dX7_tick_15 : decode cX7_tick 15 = .ok (.getfield 64, 3) := by decide +kernel
theorem dX7_tick_18 : decode cX7_tick 18 = .ok (.invokevirtual 201, 3) := by decide +kernel
theorem dX7_tick_21 : decode cX7_tick 21 = .ok (.istore_n 1, 1) := by decide +kernel
theorem dX7_tick_22 : decode cX7_tick 22 = .ok (.iconst 0, 1) := by decide +kernel
theorem dX7_tick_23 : decode cX7_tick 23 = .ok (.istore_n 2, 1) := by decide +kernel
theorem dX7_tick_24 : decode cX7_tick 24 = .ok (.iload_n 2, 1) := by decide +kernel
theorem dX7_tick_25 : decode cX7_tick 25 = .ok (.iload_n 1, 1) := by decide +kernel
theorem dX7_tick_26 : decode cX7_tick 26 = .ok (.if_icmp .ge 36, 3) := by decide +kernel
theorem dX7_tick_62 : decode cX7_tick 62 = .ok (.aload_n 0, 1) := by decide +kernel
theorem dX7_tick_63 : decode cX7_tick 63 = .ok (.getfield 20, 3) := by decide +kernel
theorem dX7_tick_66 : decode cX7_tick 66 = .ok (.aload_n 0, 1) := by decide +kernel
theorem dX7_tick_67 : decode cX7_tick 67 = .ok (.getfield 64, 3) := by decide +kernel
theorem dX7_tick_70 : decode cX7_tick 70 = .ok (.invokevirtual 233, 3) := by decide +kernel
theorem dX7_tick_73 : decode cX7_tick 73 = .ok (.aload_n 0, 1) := by decide +kernel
theorem dX7_tick_74 : decode cX7_tick 74 = .ok (.getfield 27, 3) := by decide +kernel
theorem dX7_tick_77 : decode cX7_tick 77 = .ok (.getfield 204, 3) := by decide +kernel
theorem dX7_tick_80 : decode cX7_tick 80 = .ok (.ifCond .ne 21, 3) := by decide +kernel
theorem dX7_tick_101 : decode cX7_tick 101 = .ok (.iconst 0, 1) := by decide +kernel
theorem dX7_tick_102 : decode cX7_tick 102 = .ok (.istore_n 2, 1) := by decide +kernel
theorem dX7_tick_103 : decode cX7_tick 103 = .ok (.iload_n 2, 1) := by decide +kernel
theorem dX7_tick_104 : decode cX7_tick 104 = .ok (.aload_n 0, 1) := by decide +kernel
theorem dX7_tick_105 : decode cX7_tick 105 = .ok (.getfield 52, 3) := by decide +kernel
theorem dX7_tick_108 : decode cX7_tick 108 = .ok (.getfield 127, 3) := by decide +kernel
theorem dX7_tick_111 : decode cX7_tick 111 = .ok (.if_icmp .ge 14, 3) := by decide +kernel
theorem dX7_tick_114 : decode cX7_tick 114 = .ok (.aload_n 0, 1) := by decide +kernel
theorem dX7_tick_115 : decode cX7_tick 115 = .ok (.iload_n 2, 1) := by decide +kernel
theorem dX7_tick_116 : decode cX7_tick 116 = .ok (.invokevirtual 242, 3) := by decide +kernel
theorem dX7_tick_119 : decode cX7_tick 119 = .ok (.iinc 2 1, 3) := by decide +kernel
theorem dX7_tick_122 : decode cX7_tick 122 = .ok (.goto (-19), 3) := by decide +kernel
theorem dX7_tick_125 : decode cX7_tick 125 = .ok (.return_, 1) := by decide +kernel
theorem dX7_runOn_0 : decode cX7_runOn 0 = .ok (.aload_n 0, 1) := by decide +kernel
theorem dX7_runOn_1 : decode cX7_runOn 1 = .ok (.getfield 89, 3) := by decide +kernel
theorem dX7_runOn_4 : decode cX7_runOn 4 = .ok (.istore_n 2, 1) := by decide +kernel
theorem dX7_runOn_5 : decode cX7_runOn 5 = .ok (.iconst 0, 1) := by decide +kernel
theorem dX7_runOn_6 : decode cX7_runOn 6 = .ok (.istore_n 3, 1) := by decide +kernel
theorem dX7_runOn_7 : decode cX7_runOn 7 = .ok (.iload_n 3, 1) := by decide +kernel
theorem dX7_runOn_8 : decode cX7_runOn 8 = .ok (.sipush 400, 3) := by decide +kernel
theorem dX7_runOn_11 : decode cX7_runOn 11 = .ok (.if_icmp .ge 45, 3) := by decide +kernel
theorem dX7_runOn_14 : decode cX7_runOn 14 = .ok (.aload_n 0, 1) := by decide +kernel
theorem dX7_runOn_15 : decode cX7_runOn 15 = .ok (.invokevirtual 245, 3) := by decide +kernel
theorem dX7_runOn_18 : decode cX7_runOn 18 = .ok (.ifCond .eq 38, 3) := by decide +kernel
theorem dX7_runOn_21 : decode cX7_runOn 21 = .ok (.iload_n 1, 1) := by decide +kernel
theorem dX7_runOn_22 : decode cX7_runOn 22 = .ok (.ifCond .eq 24, 3) := by decide +kernel
theorem dX7_runOn_25 : decode cX7_runOn 25 = .ok (.aload_n 0, 1) := by decide +kernel
theorem dX7_runOn_26 : decode cX7_runOn 26 = .ok (.getfield 89, 3) := by decide +kernel
theorem dX7_runOn_29 : decode cX7_runOn 29 = .ok (.iload_n 2, 1) := by decide +kernel
theorem dX7_runOn_30 : decode cX7_runOn 30 = .ok (.if_icmp .ne 14, 3) := by decide +kernel
theorem dX7_runOn_33 : decode cX7_runOn 33 = .ok (.aload_n 0, 1) := by decide +kernel
theorem dX7_runOn_34 : decode cX7_runOn 34 = .ok (.getfield 27, 3) := by decide +kernel
theorem dX7_runOn_37 : decode cX7_runOn 37 = .ok (.getfield 204, 3) := by decide +kernel
theorem dX7_runOn_40 : decode cX7_runOn 40 = .ok (.iconst 2, 1) := by decide +kernel
theorem dX7_runOn_41 : decode cX7_runOn 41 = .ok (.if_icmp .ne 5, 3) := by decide +kernel
theorem dX7_runOn_46 : decode cX7_runOn 46 = .ok (.aload_n 0, 1) := by decide +kernel
theorem dX7_runOn_47 : decode cX7_runOn 47 = .ok (.invokevirtual 249, 3) := by decide +kernel
theorem dX7_runOn_50 : decode cX7_runOn 50 = .ok (.iinc 3 1, 3) := by decide +kernel
theorem dX7_runOn_53 : decode cX7_runOn 53 = .ok (.goto (-46), 3) := by decide +kernel
theorem dX7_runOn_56 : decode cX7_runOn 56 = .ok (.iload_n 3, 1) := by decide +kernel
theorem dX7_runOn_57 : decode cX7_runOn 57 = .ok (.ireturn, 1) := by decide +kernel
theorem dX7_isBusy_0 : decode cX7_isBusy 0 = .ok (.aload_n 0, 1) := by decide +kernel
theorem dX7_isBusy_1 : decode cX7_isBusy 1 = .ok (.getfield 20, 3) := by decide +kernel
theorem dX7_isBusy_4 : decode cX7_isBusy 4 = .ok (.getfield 172, 3) := by decide +kernel
theorem dX7_isBusy_7 : decode cX7_isBusy 7 = .ok (.ifCond .gt 13, 3) := by decide +kernel
theorem dX7_isBusy_10 : decode cX7_isBusy 10 = .ok (.aload_n 0, 1) := by decide +kernel
theorem dX7_isBusy_11 : decode cX7_isBusy 11 = .ok (.getfield 27, 3) := by decide +kernel
theorem dX7_isBusy_14 : decode cX7_isBusy 14 = .ok (.getfield 204, 3) := by decide +kernel
theorem dX7_isBusy_17 : decode cX7_isBusy 17 = .ok (.ifCond .ne 5, 3) := by decide +kernel
theorem dX7_isBusy_22 : decode cX7_isBusy 22 = .ok (.iconst 0, 1) := by decide +kernel
theorem dX7_isBusy_23 : decode cX7_isBusy 23 = .ok (.istore_n 1, 1) := by decide +kernel
theorem dX7_isBusy_24 : decode cX7_isBusy 24 = .ok (.iload_n 1, 1) := by decide +kernel
theorem dX7_isBusy_25 : decode cX7_isBusy 25 = .ok (.aload_n 0, 1) := by decide +kernel
theorem dX7_isBusy_26 : decode cX7_isBusy 26 = .ok (.getfield 52, 3) := by decide +kernel
theorem dX7_isBusy_29 : decode cX7_isBusy 29 = .ok (.getfield 127, 3) := by decide +kernel
theorem dX7_isBusy_32 : decode cX7_isBusy 32 = .ok (.if_icmp .ge 34, 3) := by decide +kernel
theorem dX7_isBusy_35 : decode cX7_isBusy 35 = .ok (.aload_n 0, 1) := by decide +kernel
theorem dX7_isBusy_36 : decode cX7_isBusy 36 = .ok (.iload_n 1, 1) := by decide +kernel
theorem dX7_isBusy_37 : decode cX7_isBusy 37 = .ok (.invokevirtual 92, 3) := by decide +kernel
theorem dX7_isBusy_40 : decode cX7_isBusy 40 = .ok (.getfield 129, 3) := by decide +kernel
theorem dX7_isBusy_43 : decode cX7_isBusy 43 = .ok (.ifCond .eq 17, 3) := by decide +kernel
theorem dX7_isBusy_46 : decode cX7_isBusy 46 = .ok (.aload_n 0, 1) := by decide +kernel
theorem dX7_isBusy_47 : decode cX7_isBusy 47 = .ok (.iload_n 1, 1) := by decide +kernel
theorem dX7_isBusy_48 : decode cX7_isBusy 48 = .ok (.invokevirtual 92, 3) := by decide +kernel
theorem dX7_isBusy_51 : decode cX7_isBusy 51 = .ok (.getfield 180, 3) := by decide +kernel
theorem dX7_isBusy_54 : decode cX7_isBusy 54 = .ok (.iconst 2, 1) := by decide +kernel
theorem dX7_isBusy_55 : decode cX7_isBusy 55 = .ok (.if_icmp .ne 5, 3) := by decide +kernel
theorem dX7_isBusy_58 : decode cX7_isBusy 58 = .ok (.iconst 1, 1) := by decide +kernel
theorem dX7_isBusy_59 : decode cX7_isBusy 59 = .ok (.ireturn, 1) := by decide +kernel
theorem dX7_isBusy_60 : decode cX7_isBusy 60 = .ok (.iinc 1 1, 3) := by decide +kernel
theorem dX7_isBusy_63 : decode cX7_isBusy 63 = .ok (.goto (-39), 3) := by decide +kernel
theorem dX7_isBusy_66 : decode cX7_isBusy 66 = .ok (.iconst 0, 1) := by decide +kernel
theorem dX7_isBusy_67 : decode cX7_isBusy 67 = .ok (.ireturn, 1) := by decide +kernel
theorem dX7_commitIfVoted_0 : decode cX7_commitIfVoted 0 = .ok (.aload_n 0, 1) := by decide +kernel
theorem dX7_commitIfVoted_1 : decode cX7_commitIfVoted 1 = .ok (.getfield 27, 3) := by decide +kernel
theorem dX7_commitIfVoted_4 : decode cX7_commitIfVoted 4 = .ok (.getfield 204, 3) := by decide +kernel
theorem dX7_commitIfVoted_7 : decode cX7_commitIfVoted 7 = .ok (.ifCond .ne 20, 3) := by decide +kernel
theorem dX7_commitIfVoted_10 : decode cX7_commitIfVoted 10 = .ok (.aload_n 0, 1) := by decide +kernel
theorem dX7_commitIfVoted_11 : decode cX7_commitIfVoted 11 = .ok (.getfield 27, 3) := by decide +kernel
theorem dX7_commitIfVoted_14 : decode cX7_commitIfVoted 14 = .ok (.getfield 276, 3) := by decide +kernel
theorem dX7_commitIfVoted_17 : decode cX7_commitIfVoted 17 = .ok (.aload_n 0, 1) := by decide +kernel
theorem dX7_commitIfVoted_18 : decode cX7_commitIfVoted 18 = .ok (.getfield 52, 3) := by decide +kernel
theorem dX7_commitIfVoted_21 : decode cX7_commitIfVoted 21 = .ok (.getfield 282, 3) := by decide +kernel
theorem dX7_commitIfVoted_24 : decode cX7_commitIfVoted 24 = .ok (.if_icmp .ge 4, 3) := by decide +kernel
theorem dX7_commitIfVoted_28 : decode cX7_commitIfVoted 28 = .ok (.aload_n 0, 1) := by decide +kernel
theorem dX7_commitIfVoted_29 : decode cX7_commitIfVoted 29 = .ok (.getfield 27, 3) := by decide +kernel
theorem dX7_commitIfVoted_32 : decode cX7_commitIfVoted 32 = .ok (.iconst 1, 1) := by decide +kernel
theorem dX7_commitIfVoted_33 : decode cX7_commitIfVoted 33 = .ok (.putfield 204, 3) := by decide +kernel
theorem dX7_commitIfVoted_36 : decode cX7_commitIfVoted 36 = .ok (.aload_n 0, 1) := by decide +kernel
theorem dX7_commitIfVoted_37 : decode cX7_commitIfVoted 37 = .ok (.dup, 1) := by decide +kernel
theorem dX7_commitIfVoted_38 : decode cX7_commitIfVoted 38 = .ok (.getfield 80, 3) := by decide +kernel
theorem dX7_commitIfVoted_41 : decode cX7_commitIfVoted 41 = .ok (.iconst 1, 1) := by decide +kernel
theorem dX7_commitIfVoted_42 : decode cX7_commitIfVoted 42 = .ok (.iadd, 1) := by decide +kernel
theorem dX7_commitIfVoted_43 : decode cX7_commitIfVoted 43 = .ok (.putfield 80, 3) := by decide +kernel
theorem dX7_commitIfVoted_46 : decode cX7_commitIfVoted 46 = .ok (.aload_n 0, 1) := by decide +kernel
theorem dX7_commitIfVoted_47 : decode cX7_commitIfVoted 47 = .ok (.aload_n 0, 1) := by decide +kernel
theorem dX7_commitIfVoted_48 : decode cX7_commitIfVoted 48 = .ok (.getfield 27, 3) := by decide +kernel
theorem dX7_commitIfVoted_51 : decode cX7_commitIfVoted 51 = .ok (.getfield 273, 3) := by decide +kernel
theorem dX7_commitIfVoted_54 : decode cX7_commitIfVoted 54 = .ok (.invokevirtual 92, 3) := by decide +kernel
theorem dX7_commitIfVoted_57 : decode cX7_commitIfVoted 57 = .ok (.aload_n 0, 1) := by decide +kernel
theorem dX7_commitIfVoted_58 : decode cX7_commitIfVoted 58 = .ok (.getfield 77, 3) := by decide +kernel
theorem dX7_commitIfVoted_61 : decode cX7_commitIfVoted 61 = .ok (.iconst 1, 1) := by decide +kernel
theorem dX7_commitIfVoted_62 : decode cX7_commitIfVoted 62 = .ok (.isub, 1) := by decide +kernel
theorem dX7_commitIfVoted_63 : decode cX7_commitIfVoted 63 = .ok (.aload_n 0, 1) := by decide +kernel
theorem dX7_commitIfVoted_64 : decode cX7_commitIfVoted 64 = .ok (.getfield 27, 3) := by decide +kernel
theorem dX7_commitIfVoted_67 : decode cX7_commitIfVoted 67 = .ok (.getfield 285, 3) := by decide +kernel
theorem dX7_commitIfVoted_70 : decode cX7_commitIfVoted 70 = .ok (.aload_n 0, 1) := by decide +kernel
theorem dX7_commitIfVoted_71 : decode cX7_commitIfVoted 71 = .ok (.getfield 27, 3) := by decide +kernel
theorem dX7_commitIfVoted_74 : decode cX7_commitIfVoted 74 = .ok (.getfield 214, 3) := by decide +kernel
theorem dX7_commitIfVoted_77 : decode cX7_commitIfVoted 77 = .ok (.iconst 2, 1) := by decide +kernel
theorem dX7_commitIfVoted_78 : decode cX7_commitIfVoted 78 = .ok (.invokevirtual 217, 3) := by decide +kernel
theorem dX7_commitIfVoted_81 : decode cX7_commitIfVoted 81 = .ok (.aload_n 0, 1) := by decide +kernel
theorem dX7_commitIfVoted_82 : decode cX7_commitIfVoted 82 = .ok (.iconst 4, 1) := by decide +kernel
theorem dX7_commitIfVoted_83 : decode cX7_commitIfVoted 83 = .ok (.invokevirtual 220, 3) := by decide +kernel
theorem dX7_commitIfVoted_86 : decode cX7_commitIfVoted 86 = .ok (.return_, 1) := by decide +kernel
theorem dX7_changeIfDue_0 : decode cX7_changeIfDue 0 = .ok (.aload_n 0, 1) := by decide +kernel
theorem dX7_changeIfDue_1 : decode cX7_changeIfDue 1 = .ok (.iload_n 1, 1) := by decide +kernel
theorem dX7_changeIfDue_2 : decode cX7_changeIfDue 2 = .ok (.invokevirtual 92, 3) := by decide +kernel
theorem dX7_changeIfDue_5 : decode cX7_changeIfDue 5 = .ok (.astore_n 2, 1) := by decide +kernel
theorem dX7_changeIfDue_6 : decode cX7_changeIfDue 6 = .ok (.aload_n 0, 1) := by decide +kernel
theorem dX7_changeIfDue_7 : decode cX7_changeIfDue 7 = .ok (.iload_n 1, 1) := by decide +kernel
theorem dX7_changeIfDue_8 : decode cX7_changeIfDue 8 = .ok (.invokevirtual 116, 3) := by decide +kernel
theorem dX7_changeIfDue_11 : decode cX7_changeIfDue 11 = .ok (.istore_n 3, 1) := by decide +kernel
theorem dX7_changeIfDue_12 : decode cX7_changeIfDue 12 = .ok (.aload_n 2, 1) := by decide +kernel
theorem dX7_changeIfDue_13 : decode cX7_changeIfDue 13 = .ok (.iload_n 3, 1) := by decide +kernel
theorem dX7_changeIfDue_14 : decode cX7_changeIfDue 14 = .ok (.invokevirtual 286, 3) := by decide +kernel
theorem dX7_changeIfDue_17 : decode cX7_changeIfDue 17 = .ok (.ifCond .ne 4, 3) := by decide +kernel
theorem dX7_changeIfDue_20 : decode cX7_changeIfDue 20 = .ok (.return_, 1) := by decide +kernel
theorem dX7_changeIfDue_21 : decode cX7_changeIfDue 21 = .ok (.iload_n 3, 1) := by decide +kernel
theorem dX7_changeIfDue_22 : decode cX7_changeIfDue 22 = .ok (.aload_n 2, 1) := by decide +kernel
theorem dX7_changeIfDue_23 : decode cX7_changeIfDue 23 = .ok (.getfield 289, 3) := by decide +kernel
theorem dX7_changeIfDue_26 : decode cX7_changeIfDue 26 = .ok (.if_icmp .le 7, 3) := by decide +kernel
theorem dX7_changeIfDue_33 : decode cX7_changeIfDue 33 = .ok (.iconst 0, 1) := by decide +kernel
theorem dX7_changeIfDue_34 : decode cX7_changeIfDue 34 = .ok (.istore 4, 2) := by decide +kernel
theorem dX7_changeIfDue_36 : decode cX7_changeIfDue 36 = .ok (.aload_n 2, 1) := by decide +kernel
theorem dX7_changeIfDue_37 : decode cX7_changeIfDue 37 = .ok (.getfield 183, 3) := by decide +kernel
theorem dX7_changeIfDue_40 : decode cX7_changeIfDue 40 = .ok (.aload_n 0, 1) := by decide +kernel
theorem dX7_changeIfDue_41 : decode cX7_changeIfDue 41 = .ok (.getfield 77, 3) := by decide +kernel
theorem dX7_changeIfDue_44 : decode cX7_changeIfDue 44 = .ok (.iconst 1, 1) := by decide +kernel
theorem dX7_changeIfDue_45 : decode cX7_changeIfDue 45 = .ok (.isub, 1) := by decide +kernel
theorem dX7_changeIfDue_46 : decode cX7_changeIfDue 46 = .ok (.if_icmp .ne 14, 3) := by decide +kernel
theorem dX7_changeIfDue_49 : decode cX7_changeIfDue 49 = .ok (.aload_n 0, 1) := by decide +kernel
theorem dX7_changeIfDue_50 : decode cX7_changeIfDue 50 = .ok (.getfield 27, 3) := by decide +kernel
theorem dX7_changeIfDue_53 : decode cX7_changeIfDue 53 = .ok (.aload_n 0, 1) := by decide +kernel
theorem dX7_changeIfDue_54 : decode cX7_changeIfDue 54 = .ok (.getfield 64, 3) := by decide +kernel
theorem dX7_changeIfDue_57 : decode cX7_changeIfDue 57 = .ok (.invokevirtual 292, 3) := by decide +kernel
theorem dX7_changeIfDue_60 : decode cX7_changeIfDue 60 = .ok (.aload_n 2, 1) := by decide +kernel
theorem dX7_changeIfDue_61 : decode cX7_changeIfDue 61 = .ok (.aload_n 0, 1) := by decide +kernel
theorem dX7_changeIfDue_62 : decode cX7_changeIfDue 62 = .ok (.getfield 64, 3) := by decide +kernel
theorem dX7_changeIfDue_65 : decode cX7_changeIfDue 65 = .ok (.iload 4, 2) := by decide +kernel
theorem dX7_changeIfDue_67 : decode cX7_changeIfDue 67 = .ok (.invokevirtual 295, 3) := by decide +kernel
theorem dX7_changeIfDue_70 : decode cX7_changeIfDue 70 = .ok (.aload_n 0, 1) := by decide +kernel
theorem dX7_changeIfDue_71 : decode cX7_changeIfDue 71 = .ok (.dup, 1) := by decide +kernel
theorem dX7_changeIfDue_72 : decode cX7_changeIfDue 72 = .ok (.getfield 86, 3) := by decide +kernel
theorem dX7_changeIfDue_75 : decode cX7_changeIfDue 75 = .ok (.iconst 1, 1) := by decide +kernel
theorem dX7_changeIfDue_76 : decode cX7_changeIfDue 76 = .ok (.iadd, 1) := by decide +kernel
theorem dX7_changeIfDue_77 : decode cX7_changeIfDue 77 = .ok (.putfield 86, 3) := by decide +kernel
theorem dX7_changeIfDue_80 : decode cX7_changeIfDue 80 = .ok (.iload 4, 2) := by decide +kernel
theorem dX7_changeIfDue_82 : decode cX7_changeIfDue 82 = .ok (.ifCond .eq 13, 3) := by decide +kernel
theorem dX7_changeIfDue_95 : decode cX7_changeIfDue 95 = .ok (.return_, 1) := by decide +kernel
theorem dX7_sendToOthers_0 : decode cX7_sendToOthers 0 = .ok (.iconst 0, 1) := by decide +kernel
theorem dX7_sendToOthers_1 : decode cX7_sendToOthers 1 = .ok (.istore_n 2, 1) := by decide +kernel
theorem dX7_sendToOthers_2 : decode cX7_sendToOthers 2 = .ok (.iload_n 2, 1) := by decide +kernel
theorem dX7_sendToOthers_3 : decode cX7_sendToOthers 3 = .ok (.aload_n 0, 1) := by decide +kernel
theorem dX7_sendToOthers_4 : decode cX7_sendToOthers 4 = .ok (.getfield 52, 3) := by decide +kernel
theorem dX7_sendToOthers_7 : decode cX7_sendToOthers 7 = .ok (.getfield 127, 3) := by decide +kernel
theorem dX7_sendToOthers_10 : decode cX7_sendToOthers 10 = .ok (.if_icmp .ge 54, 3) := by decide +kernel
theorem dX7_sendToOthers_13 : decode cX7_sendToOthers 13 = .ok (.iload_n 2, 1) := by decide +kernel
theorem dX7_sendToOthers_14 : decode cX7_sendToOthers 14 = .ok (.aload_n 0, 1) := by decide +kernel
theorem dX7_sendToOthers_15 : decode cX7_sendToOthers 15 = .ok (.getfield 27, 3) := by decide +kernel
theorem dX7_sendToOthers_18 : decode cX7_sendToOthers 18 = .ok (.getfield 273, 3) := by decide +kernel
theorem dX7_sendToOthers_21 : decode cX7_sendToOthers 21 = .ok (.if_icmp .eq 37, 3) := by decide +kernel
theorem dX7_sendToOthers_58 : decode cX7_sendToOthers 58 = .ok (.iinc 2 1, 3) := by decide +kernel
theorem dX7_sendToOthers_61 : decode cX7_sendToOthers 61 = .ok (.goto (-59), 3) := by decide +kernel
theorem dX7_sendToOthers_64 : decode cX7_sendToOthers 64 = .ok (.return_, 1) := by decide +kernel
theorem dX8_init_0 : decode cX8_init 0 = .ok (.aload_n 0, 1) := by decide +kernel
theorem dX8_init_1 : decode cX8_init 1 = .ok (.invokespecial 1, 3) := by decide +kernel
theorem dX8_init_4 : decode cX8_init 4 = .ok (.aload_n 0, 1) := by decide +kernel
theorem dX8_init_5 : decode cX8_init 5 = .ok (.new 7, 3) := by decide +kernel
theorem dX8_init_8 : decode cX8_init 8 = .ok (.dup, 1) := by decide +kernel
theorem dX8_init_9 : decode cX8_init 9 = .ok (.invokespecial 9, 3) := by decide +kernel
theorem dX8_init_12 : decode cX8_init 12 = .ok (.putfield 10, 3) := by decide +kernel
theorem dX8_init_15 : decode cX8_init 15 = .ok (.aload_n 0, 1) := by decide +kernel
theorem dX8_init_16 : decode cX8_init 16 = .ok (.new 16, 3) := by decide +kernel
theorem dX8_init_19 : decode cX8_init 19 = .ok (.dup, 1) := by decide +kernel
theorem dX8_init_20 : decode cX8_init 20 = .ok (.invokespecial 18, 3) := by decide +kernel
theorem dX8_init_23 : decode cX8_init 23 = .ok (.putfield 19, 3) := by decide +kernel
theorem dX8_init_26 : decode cX8_init 26 = .ok (.aload_n 0, 1) := by decide +kernel
theorem dX8_init_27 : decode cX8_init 27 = .ok (.new 16, 3) := by decide +kernel
theorem dX8_init_30 : decode cX8_init 30 = .ok (.dup, 1) := by decide +kernel
theorem dX8_init_31 : decode cX8_init 31 = .ok (.invokespecial 18, 3) := by decide +kernel
theorem dX8_init_34 : decode cX8_init 34 = .ok (.putfield 23, 3) := by decide +kernel
theorem dX8_init_37 : decode cX8_init 37 = .ok (.aload_n 0, 1) := by decide +kernel
theorem dX8_init_38 : decode cX8_init 38 = .ok (.bipush 8, 2) := by decide +kernel
theorem dX8_init_40 : decode cX8_init 40 = .ok (.anewarray 16, 3) := by decide +kernel
theorem dX8_init_43 : decode cX8_init 43 = .ok (.putfield 26, 3) := by decide +kernel
theorem dX8_init_46 : decode cX8_init 46 = .ok (.aload_n 0, 1) := by decide +kernel
theorem dX8_init_47 : decode cX8_init 47 = .ok (.iconst (-1), 1) := by decide +kernel
theorem dX8_init_48 : decode cX8_init 48 = .ok (.putfield 30, 3) := by decide +kernel
theorem dX8_init_51 : decode cX8_init 51 = .ok (.iconst 0, 1) := by decide +kernel
theorem dX8_init_52 : decode cX8_init 52 = .ok (.istore_n 1, 1) := by decide +kernel
theorem dX8_init_53 : decode cX8_init 53 = .ok (.iload_n 1, 1) := by decide +kernel
theorem dX8_init_54 : decode cX8_init 54 = .ok (.aload_n 0, 1) := by decide +kernel
theorem dX8_init_55 : decode cX8_init 55 = .ok (.getfield 26, 3) := by decide +kernel
theorem dX8_init_58 : decode cX8_init 58 = .ok (.arraylength, 1) := by decide +kernel
theorem dX8_init_59 : decode cX8_init 59 = .ok (.if_icmp .ge 22, 3) := by decide +kernel
theorem dX8_init_62 : decode cX8_init 62 = .ok (.aload_n 0, 1) := by decide +kernel
theorem dX8_init_63 : decode cX8_init 63 = .ok (.getfield 26, 3) := by decide +kernel
theorem dX8_init_66 : decode cX8_init 66 = .ok (.iload_n 1, 1) := by decide +kernel
theorem dX8_init_67 : decode cX8_init 67 = .ok (.new 16, 3) := by decide +kernel
theorem dX8_init_70 : decode cX8_init 70 = .ok (.dup, 1) := by decide +kernel
theorem dX8_init_71 : decode cX8_init 71 = .ok (.invokespecial 18, 3) := by decide +kernel
theorem dX8_init_74 : decode cX8_init 74 = .ok (.aastore, 1) := by decide +kernel
theorem dX8_init_75 : decode cX8_init 75 = .ok (.iinc 1 1, 3) := by decide +kernel
theorem dX8_init_78 : decode cX8_init 78 = .ok (.goto (-25), 3) := by decide +kernel
theorem dX8_init_81 : decode cX8_init 81 = .ok (.return_, 1) := by decide +kernel
theorem dX8_append_0 : decode cX8_append 0 = .ok (.aload_n 0, 1) := by decide +kernel
theorem dX8_append_1 : decode cX8_append 1 = .ok (.getfield 10, 3) := by decide +kernel
theorem dX8_append_4 : decode cX8_append 4 = .ok (.bipush 20, 2) := by decide +kernel
theorem dX8_append_6 : decode cX8_append 6 = .ok (.invokevirtual 34, 3) := by decide +kernel
theorem dX8_append_9 : decode cX8_append 9 = .ok (.ifCond .ne 5, 3) := by decide +kernel
theorem dX8_append_14 : decode cX8_append 14 = .ok (.aload_n 0, 1) := by decide +kernel
theorem dX8_append_15 : decode cX8_append 15 = .ok (.getfield 10, 3) := by decide +kernel
theorem dX8_append_18 : decode cX8_append 18 = .ok (.iload_n 1, 1) := by decide +kernel
theorem dX8_append_19 : decode cX8_append 19 = .ok (.invokevirtual 38, 3) := by decide +kernel
theorem dX8_append_22 : decode cX8_append 22 = .ok (.aload_n 0, 1) := by decide +kernel
theorem dX8_append_23 : decode cX8_append 23 = .ok (.getfield 10, 3) := by decide +kernel
theorem dX8_append_26 : decode cX8_append 26 = .ok (.iload_n 2, 1) := by decide +kernel
theorem dX8_append_27 : decode cX8_append 27 = .ok (.invokevirtual 38, 3) := by decide +kernel
theorem dX8_append_30 : decode cX8_append 30 = .ok (.aload_n 0, 1) := by decide +kernel
theorem dX8_append_31 : decode cX8_append 31 = .ok (.getfield 10, 3) := by decide +kernel
theorem dX8_append_34 : decode cX8_append 34 = .ok (.iload_n 3, 1) := by decide +kernel
theorem dX8_append_35 : decode cX8_append 35 = .ok (.invokevirtual 38, 3) := by decide +kernel
theorem dX8_append_38 : decode cX8_append 38 = .ok (.aload_n 0, 1) := by decide +kernel
theorem dX8_append_39 : decode cX8_append 39 = .ok (.getfield 10, 3) := by decide +kernel
theorem dX8_append_42 : decode cX8_append 42 = .ok (.iload 4, 2) := by decide +kernel
theorem dX8_append_44 : decode cX8_append 44 = .ok (.invokevirtual 38, 3) := by decide +kernel
theorem dX8_append_47 : decode cX8_append 47 = .ok (.aload_n 0, 1) := by decide +kernel
theorem dX8_append_48 : decode cX8_append 48 = .ok (.getfield 10, 3) := by decide +kernel
theorem dX8_append_51 : decode cX8_append 51 = .ok (.iload 5, 2) := by decide +kernel
theorem dX8_append_53 : decode cX8_append 53 = .ok (.invokevirtual 38, 3) := by decide +kernel
theorem dX8_append_56 : decode cX8_append 56 = .ok (.aload_n 0, 1) := by decide +kernel
theorem dX8_append_57 : decode cX8_append 57 = .ok (.getfield 10, 3) := by decide +kernel
theorem dX8_append_60 : decode cX8_append 60 = .ok (.getfield 42, 3) := by decide +kernel
theorem dX8_append_63 : decode cX8_append 63 = .ok (.ireturn, 1) := by decide +kernel
theorem dX8_load_0 : decode cX8_load 0 = .ok (.iload_n 1, 1) := by decide +kernel
theorem dX8_load_1 : decode cX8_load 1 = .ok (.ifCond .lt 14, 3) := by decide +kernel
theorem dX8_load_4 : decode cX8_load 4 = .ok (.iload_n 1, 1) := by decide +kernel
theorem dX8_load_5 : decode cX8_load 5 = .ok (.aload_n 0, 1) := by decide +kernel
theorem dX8_load_6 : decode cX8_load 6 = .ok (.getfield 10, 3) := by decide +kernel
theorem dX8_load_9 : decode cX8_load 9 = .ok (.getfield 42, 3) := by decide +kernel
theorem dX8_load_12 : decode cX8_load 12 = .ok (.if_icmp .le 13, 3) := by decide +kernel
theorem dX8_load_15 : decode cX8_load 15 = .ok (.new 45, 3) := by decide +kernel
theorem dX8_load_18 : decode cX8_load 18 = .ok (.dup, 1) := by decide +kernel
theorem dX8_load_19 : decode cX8_load 19 = .ok (.ldc 47, 2) := by decide +kernel
theorem dX8_load_21 : decode cX8_load 21 = .ok (.invokespecial 49, 3) := by decide +kernel
theorem dX8_load_24 : decode cX8_load 24 = .ok (.athrow, 1) := by decide +kernel
theorem dX8_load_25 : decode cX8_load 25 = .ok (.aload_n 0, 1) := by decide +kernel
theorem dX8_load_26 : decode cX8_load 26 = .ok (.getfield 10, 3) := by decide +kernel
theorem dX8_load_29 : decode cX8_load 29 = .ok (.iload_n 1, 1) := by decide +kernel
theorem dX8_load_30 : decode cX8_load 30 = .ok (.invokevirtual 52, 3) := by decide +kernel
theorem dX8_load_33 : decode cX8_load 33 = .ok (.astore_n 2, 1) := by decide +kernel
theorem dX8_load_34 : decode cX8_load 34 = .ok (.aload_n 0, 1) := by decide +kernel
theorem dX8_load_35 : decode cX8_load 35 = .ok (.aload_n 0, 1) := by decide +kernel
theorem dX8_load_36 : decode cX8_load 36 = .ok (.getfield 10, 3) := by decide +kernel
theorem dX8_load_39 : decode cX8_load 39 = .ok (.getfield 56, 3) := by decide +kernel
theorem dX8_load_42 : decode cX8_load 42 = .ok (.putfield 30, 3) := by decide +kernel
theorem dX8_load_45 : decode cX8_load 45 = .ok (.aload_n 2, 1) := by decide +kernel
theorem dX8_load_46 : decode cX8_load 46 = .ok (.ifnonnull 11, 3) := by decide +kernel
theorem dX8_load_49 : decode cX8_load 49 = .ok (.aload_n 0, 1) := by decide +kernel
theorem dX8_load_50 : decode cX8_load 50 = .ok (.getfield 10, 3) := by decide +kernel
theorem dX8_load_53 : decode cX8_load 53 = .ok (.getfield 59, 3) := by decide +kernel
theorem dX8_load_56 : decode cX8_load 56 = .ok (.ireturn, 1) := by decide +kernel
theorem dX8_errorOffset_0 : decode cX8_errorOffset 0 = .ok (.aload_n 0, 1) := by decide +kernel
theorem dX8_errorOffset_1 : decode cX8_errorOffset 1 = .ok (.getfield 30, 3) := by decide +kernel
theorem dX8_errorOffset_4 : decode cX8_errorOffset 4 = .ok (.ireturn, 1) := by decide +kernel
theorem dX8_state_0 : decode cX8_state 0 = .ok (.aload_n 0, 1) := by decide +kernel
theorem dX8_state_1 : decode cX8_state 1 = .ok (.iload_n 1, 1) := by decide +kernel
theorem dX8_state_2 : decode cX8_state 2 = .ok (.bipush 12, 2) := by decide +kernel
theorem dX8_state_4 : decode cX8_state 4 = .ok (.invokevirtual 74, 3) := by decide +kernel
theorem dX8_state_7 : decode cX8_state 7 = .ok (.aload_n 0, 1) := by decide +kernel
theorem dX8_state_8 : decode cX8_state 8 = .ok (.getfield 19, 3) := by decide +kernel
theorem dX8_state_11 : decode cX8_state 11 = .ok (.iload_n 1, 1) := by decide +kernel
theorem dX8_state_12 : decode cX8_state 12 = .ok (.invokevirtual 78, 3) := by decide +kernel
theorem dX8_state_15 : decode cX8_state 15 = .ok (.ireturn, 1) := by decide +kernel
theorem dX8_player_0 : decode cX8_player 0 = .ok (.aload_n 0, 1) := by decide +kernel
theorem dX8_player_1 : decode cX8_player 1 = .ok (.iload_n 1, 1) := by decide +kernel
theorem dX8_player_2 : decode cX8_player 2 = .ok (.invokevirtual 82, 3) := by decide +kernel
theorem dX8_player_5 : decode cX8_player 5 = .ok (.aload_n 0, 1) := by decide +kernel
theorem dX8_player_6 : decode cX8_player 6 = .ok (.iload_n 2, 1) := by decide +kernel
theorem dX8_player_7 : decode cX8_player 7 = .ok (.bipush 9, 2) := by decide +kernel
theorem dX8_player_9 : decode cX8_player 9 = .ok (.invokevirtual 74, 3) := by decide +kernel
theorem dX8_player_12 : decode cX8_player 12 = .ok (.aload_n 0, 1) := by decide +kernel
theorem dX8_player_13 : decode cX8_player 13 = .ok (.getfield 19, 3) := by decide +kernel
theorem dX8_player_16 : decode cX8_player 16 = .ok (.iload_n 1, 1) := by decide +kernel
theorem dX8_player_17 : decode cX8_player 17 = .ok (.iload_n 2, 1) := by decide +kernel
theorem dX8_player_18 : decode cX8_player 18 = .ok (.invokevirtual 85, 3) := by decide +kernel
theorem dX8_player_21 : decode cX8_player 21 = .ok (.ireturn, 1) := by decide +kernel
theorem dX8_link_0 : decode cX8_link 0 = .ok (.aload_n 0, 1) := by decide +kernel
theorem dX8_link_1 : decode cX8_link 1 = .ok (.iload_n 1, 1) := by decide +kernel
theorem dX8_link_2 : decode cX8_link 2 = .ok (.invokevirtual 82, 3) := by decide +kernel
theorem dX8_link_5 : decode cX8_link 5 = .ok (.aload_n 0, 1) := by decide +kernel
theorem dX8_link_6 : decode cX8_link 6 = .ok (.iload_n 2, 1) := by decide +kernel
theorem dX8_link_7 : decode cX8_link 7 = .ok (.invokevirtual 82, 3) := by decide +kernel
theorem dX8_link_10 : decode cX8_link 10 = .ok (.aload_n 0, 1) := by decide +kernel
theorem dX8_link_11 : decode cX8_link 11 = .ok (.getfield 19, 3) := by decide +kernel
theorem dX8_link_14 : decode cX8_link 14 = .ok (.iload_n 1, 1) := by decide +kernel
theorem dX8_link_15 : decode cX8_link 15 = .ok (.iload_n 2, 1) := by decide +kernel
theorem dX8_link_16 : decode cX8_link 16 = .ok (.invokevirtual 89, 3) := by decide +kernel
theorem dX8_link_19 : decode cX8_link 19 = .ok (.ifCond .eq 16, 3) := by decide +kernel
theorem dX8_link_35 : decode cX8_link 35 = .ok (.aload_n 0, 1) := by decide +kernel
theorem dX8_link_36 : decode cX8_link 36 = .ok (.getfield 19, 3) := by decide +kernel
theorem dX8_link_39 : decode cX8_link 39 = .ok (.iload_n 1, 1) := by decide +kernel
theorem dX8_link_40 : decode cX8_link 40 = .ok (.iload_n 2, 1) := by decide +kernel
theorem dX8_link_41 : decode cX8_link 41 = .ok (.invokevirtual 93, 3) := by decide +kernel
theorem dX8_link_44 : decode cX8_link 44 = .ok (.ireturn, 1) := by decide +kernel
theorem dX8_message_0 : decode cX8_message 0 = .ok (.iload_n 1, 1) := by decide +kernel
theorem dX8_message_1 : decode cX8_message 1 = .ok (.ifCond .lt 17, 3) := by decide +kernel
theorem dX8_message_4 : decode cX8_message 4 = .ok (.iload_n 1, 1) := by decide +kernel
theorem dX8_message_5 : decode cX8_message 5 = .ok (.aload_n 0, 1) := by decide +kernel
theorem dX8_message_6 : decode cX8_message 6 = .ok (.getfield 19, 3) := by decide +kernel
theorem dX8_message_9 : decode cX8_message 9 = .ok (.getfield 96, 3) := by decide +kernel
theorem dX8_message_12 : decode cX8_message 12 = .ok (.getfield 100, 3) := by decide +kernel
theorem dX8_message_15 : decode cX8_message 15 = .ok (.if_icmp .lt 13, 3) := by decide +kernel
theorem dX8_message_18 : decode cX8_message 18 = .ok (.new 105, 3) := by decide +kernel
theorem dX8_message_21 : decode cX8_message 21 = .ok (.dup, 1) := by decide +kernel
theorem dX8_message_22 : decode cX8_message 22 = .ok (.ldc 107, 2) := by decide +kernel
theorem dX8_message_24 : decode cX8_message 24 = .ok (.invokespecial 109, 3) := by decide +kernel
theorem dX8_message_27 : decode cX8_message 27 = .ok (.athrow, 1) := by decide +kernel
theorem dX8_proposal_0 : decode cX8_proposal 0 = .ok (.aload_n 0, 1) := by decide +kernel
theorem dX8_proposal_1 : decode cX8_proposal 1 = .ok (.getfield 19, 3) := by decide +kernel
theorem dX8_proposal_4 : decode cX8_proposal 4 = .ok (.getfield 113, 3) := by decide +kernel
theorem dX8_proposal_7 : decode cX8_proposal 7 = .ok (.ifCond .ne 13, 3) := by decide +kernel
theorem dX8_proposal_10 : decode cX8_proposal 10 = .ok (.new 105, 3) := by decide +kernel
theorem dX8_proposal_13 : decode cX8_proposal 13 = .ok (.dup, 1) := by decide +kernel
theorem dX8_proposal_14 : decode cX8_proposal 14 = .ok (.ldc 116, 2) := by decide +kernel
theorem dX8_proposal_16 : decode cX8_proposal 16 = .ok (.invokespecial 109, 3) := by decide +kernel
theorem dX8_proposal_19 : decode cX8_proposal 19 = .ok (.athrow, 1) := by decide +kernel
theorem dX8_spread_0 : decode cX8_spread 0 = .ok (.aload_n 0, 1) := by decide +kernel
theorem dX8_spread_1 : decode cX8_spread 1 = .ok (.getfield 19, 3) := by decide +kernel
theorem dX8_spread_4 : decode cX8_spread 4 = .ok (.getfield 118, 3) := by decide +kernel
theorem dX8_spread_7 : decode cX8_spread 7 = .ok (.invokevirtual 127, 3) := by decide +kernel
theorem dX8_spread_10 : decode cX8_spread 10 = .ok (.ireturn, 1) := by decide +kernel
theorem dX8_foretold_0 : decode cX8_foretold 0 = .ok (.aload_n 0, 1) := by decide +kernel
theorem dX8_foretold_1 : decode cX8_foretold 1 = .ok (.iload_n 1, 1) := by decide +kernel
theorem dX8_foretold_2 : decode cX8_foretold 2 = .ok (.iconst 4, 1) := by decide +kernel
theorem dX8_foretold_3 : decode cX8_foretold 3 = .ok (.invokevirtual 74, 3) := by decide +kernel
theorem dX8_foretold_6 : decode cX8_foretold 6 = .ok (.aload_n 0, 1) := by decide +kernel
theorem dX8_foretold_7 : decode cX8_foretold 7 = .ok (.getfield 23, 3) := by decide +kernel
theorem dX8_foretold_10 : decode cX8_foretold 10 = .ok (.aload_n 0, 1) := by decide +kernel
theorem dX8_foretold_11 : decode cX8_foretold 11 = .ok (.getfield 19, 3) := by decide +kernel
theorem dX8_foretold_14 : decode cX8_foretold 14 = .ok (.invokevirtual 131, 3) := by decide +kernel
theorem dX8_foretold_17 : decode cX8_foretold 17 = .ok (.aload_n 0, 1) := by decide +kernel
theorem dX8_foretold_18 : decode cX8_foretold 18 = .ok (.getfield 23, 3) := by decide +kernel
theorem dX8_foretold_21 : decode cX8_foretold 21 = .ok (.iconst 0, 1) := by decide +kernel
theorem dX8_foretold_22 : decode cX8_foretold 22 = .ok (.invokevirtual 135, 3) := by decide +kernel
theorem dX8_foretold_25 : decode cX8_foretold 25 = .ok (.istore_n 2, 1) := by decide +kernel
theorem dX8_foretold_26 : decode cX8_foretold 26 = .ok (.iload_n 1, 1) := by decide +kernel
theorem dX8_foretold_27 : decode cX8_foretold 27 = .ok (.tableswitch 75 0 3 #[29, 31, 56, 67], 29) := by decide +kernel
theorem dX8_foretold_56 : decode cX8_foretold 56 = .ok (.iload_n 2, 1) := by decide +kernel
theorem dX8_foretold_57 : decode cX8_foretold 57 = .ok (.ireturn, 1) := by decide +kernel
theorem dX8_foretold_58 : decode cX8_foretold 58 = .ok (.aload_n 0, 1) := by decide +kernel
theorem dX8_foretold_59 : decode cX8_foretold 59 = .ok (.getfield 23, 3) := by decide +kernel
theorem dX8_foretold_62 : decode cX8_foretold 62 = .ok (.getfield 113, 3) := by decide +kernel
theorem dX8_foretold_65 : decode cX8_foretold 65 = .ok (.ifCond .ne 7, 3) := by decide +kernel
theorem dX8_foretold_68 : decode cX8_foretold 68 = .ok (.iconst (-1), 1) := by decide +kernel
theorem dX8_foretold_69 : decode cX8_foretold 69 = .ok (.goto 13, 3) := by decide +kernel
theorem dX8_foretold_82 : decode cX8_foretold 82 = .ok (.ireturn, 1) := by decide +kernel
theorem dX8_foretold_83 : decode cX8_foretold 83 = .ok (.aload_n 0, 1) := by decide +kernel
theorem dX8_foretold_84 : decode cX8_foretold 84 = .ok (.getfield 23, 3) := by decide +kernel
theorem dX8_foretold_87 : decode cX8_foretold 87 = .ok (.getfield 118, 3) := by decide +kernel
theorem dX8_foretold_90 : decode cX8_foretold 90 = .ok (.invokevirtual 127, 3) := by decide +kernel
theorem dX8_foretold_93 : decode cX8_foretold 93 = .ok (.ireturn, 1) := by decide +kernel
theorem dX8_foretold_94 : decode cX8_foretold 94 = .ok (.aload_n 0, 1) := by decide +kernel
theorem dX8_foretold_95 : decode cX8_foretold 95 = .ok (.getfield 23, 3) := by decide +kernel
theorem dX8_foretold_98 : decode cX8_foretold 98 = .ok (.invokevirtual 142, 3) := by decide +kernel
theorem dX8_foretold_101 : decode cX8_foretold 101 = .ok (.ireturn, 1) := by decide +kernel
theorem dX8_foretold_102 : decode cX8_foretold 102 = .ok (.aload_n 0, 1) := by decide +kernel
theorem dX8_foretold_103 : decode cX8_foretold 103 = .ok (.getfield 23, 3) := by decide +kernel
theorem dX8_foretold_106 : decode cX8_foretold 106 = .ok (.getfield 145, 3) := by decide +kernel
theorem dX8_foretold_109 : decode cX8_foretold 109 = .ok (.aload_n 0, 1) := by decide +kernel
theorem dX8_foretold_110 : decode cX8_foretold 110 = .ok (.getfield 19, 3) := by decide +kernel
theorem dX8_foretold_113 : decode cX8_foretold 113 = .ok (.getfield 145, 3) := by decide +kernel
theorem dX8_foretold_116 : decode cX8_foretold 116 = .ok (.isub, 1) := by decide +kernel
theorem dX8_foretold_117 : decode cX8_foretold 117 = .ok (.ireturn, 1) := by decide +kernel
theorem dX8_safest_0 : decode cX8_safest 0 = .ok (.aload_n 0, 1) := by decide +kernel
theorem dX8_safest_1 : decode cX8_safest 1 = .ok (.getfield 19, 3) := by decide +kernel
theorem dX8_safest_4 : decode cX8_safest 4 = .ok (.invokevirtual 148, 3) := by decide +kernel
theorem dX8_safest_7 : decode cX8_safest 7 = .ok (.ifCond .ne 5, 3) := by decide +kernel
theorem dX8_safest_12 : decode cX8_safest 12 = .ok (.iconst 1, 1) := by decide +kernel
theorem dX8_safest_13 : decode cX8_safest 13 = .ok (.istore_n 1, 1) := by decide +kernel
theorem dX8_safest_14 : decode cX8_safest 14 = .ok (.iload_n 1, 1) := by decide +kernel
theorem dX8_safest_15 : decode cX8_safest 15 = .ok (.bipush 60, 2) := by decide +kernel
theorem dX8_safest_17 : decode cX8_safest 17 = .ok (.if_icmp .gt 71, 3) := by decide +kernel
theorem dX8_safest_20 : decode cX8_safest 20 = .ok (.aload_n 0, 1) := by decide +kernel
theorem dX8_safest_21 : decode cX8_safest 21 = .ok (.getfield 23, 3) := by decide +kernel
theorem dX8_safest_24 : decode cX8_safest 24 = .ok (.aload_n 0, 1) := by decide +kernel
theorem dX8_safest_25 : decode cX8_safest 25 = .ok (.getfield 19, 3) := by decide +kernel
theorem dX8_safest_28 : decode cX8_safest 28 = .ok (.invokevirtual 131, 3) := by decide +kernel
theorem dX8_safest_31 : decode cX8_safest 31 = .ok (.aload_n 0, 1) := by decide +kernel
theorem dX8_safest_32 : decode cX8_safest 32 = .ok (.getfield 23, 3) := by decide +kernel
theorem dX8_safest_35 : decode cX8_safest 35 = .ok (.iconst 1, 1) := by decide +kernel
theorem dX8_safest_36 : decode cX8_safest 36 = .ok (.iload_n 1, 1) := by decide +kernel
theorem dX8_safest_37 : decode cX8_safest 37 = .ok (.invokevirtual 152, 3) := by decide +kernel
theorem dX8_safest_40 : decode cX8_safest 40 = .ok (.aload_n 0, 1) := by decide +kernel
theorem dX8_safest_41 : decode cX8_safest 41 = .ok (.getfield 23, 3) := by decide +kernel
theorem dX8_safest_44 : decode cX8_safest 44 = .ok (.iconst 1, 1) := by decide +kernel
theorem dX8_safest_45 : decode cX8_safest 45 = .ok (.invokevirtual 135, 3) := by decide +kernel
theorem dX8_safest_48 : decode cX8_safest 48 = .ok (.pop, 1) := by decide +kernel
theorem dX8_safest_49 : decode cX8_safest 49 = .ok (.aload_n 0, 1) := by decide +kernel
theorem dX8_safest_50 : decode cX8_safest 50 = .ok (.getfield 23, 3) := by decide +kernel
theorem dX8_safest_53 : decode cX8_safest 53 = .ok (.getfield 118, 3) := by decide +kernel
theorem dX8_safest_56 : decode cX8_safest 56 = .ok (.getfield 139, 3) := by decide +kernel
theorem dX8_safest_59 : decode cX8_safest 59 = .ok (.iconst 1, 1) := by decide +kernel
theorem dX8_safest_60 : decode cX8_safest 60 = .ok (.if_icmp .ne 22, 3) := by decide +kernel
theorem dX8_safest_63 : decode cX8_safest 63 = .ok (.aload_n 0, 1) := by decide +kernel
theorem dX8_safest_64 : decode cX8_safest 64 = .ok (.getfield 23, 3) := by decide +kernel
theorem dX8_safest_67 : decode cX8_safest 67 = .ok (.getfield 145, 3) := by decide +kernel
theorem dX8_safest_70 : decode cX8_safest 70 = .ok (.aload_n 0, 1) := by decide +kernel
theorem dX8_safest_71 : decode cX8_safest 71 = .ok (.getfield 19, 3) := by decide +kernel
theorem dX8_safest_74 : decode cX8_safest 74 = .ok (.getfield 145, 3) := by decide +kernel
theorem dX8_safest_77 : decode cX8_safest 77 = .ok (.if_icmp .ne 5, 3) := by decide +kernel
theorem dX8_safest_80 : decode cX8_safest 80 = .ok (.iload_n 1, 1) := by decide +kernel
theorem dX8_safest_81 : decode cX8_safest 81 = .ok (.ireturn, 1) := by decide +kernel
theorem dX8_meanError_0 : decode cX8_meanError 0 = .ok (.lconst 0, 1) := by decide +kernel
theorem dX8_meanError_1 : decode cX8_meanError 1 = .ok (.lstore_n 1, 1) := by decide +kernel
theorem dX8_meanError_2 : decode cX8_meanError 2 = .ok (.iconst 0, 1) := by decide +kernel
theorem dX8_meanError_3 : decode cX8_meanError 3 = .ok (.istore_n 3, 1) := by decide +kernel
theorem dX8_meanError_4 : decode cX8_meanError 4 = .ok (.iload_n 3, 1) := by decide +kernel
theorem dX8_meanError_5 : decode cX8_meanError 5 = .ok (.aload_n 0, 1) := by decide +kernel
theorem dX8_meanError_6 : decode cX8_meanError 6 = .ok (.getfield 19, 3) := by decide +kernel
theorem dX8_meanError_9 : decode cX8_meanError 9 = .ok (.getfield 155, 3) := by decide +kernel
theorem dX8_meanError_12 : decode cX8_meanError 12 = .ok (.getfield 69, 3) := by decide +kernel
theorem dX8_meanError_15 : decode cX8_meanError 15 = .ok (.if_icmp .ge 38, 3) := by decide +kernel
theorem dX8_meanError_18 : decode cX8_meanError 18 = .ok (.aload_n 0, 1) := by decide +kernel
theorem dX8_meanError_19 : decode cX8_meanError 19 = .ok (.getfield 19, 3) := by decide +kernel
theorem dX8_meanError_22 : decode cX8_meanError 22 = .ok (.iload_n 3, 1) := by decide +kernel
theorem dX8_meanError_23 : decode cX8_meanError 23 = .ok (.invokevirtual 159, 3) := by decide +kernel
theorem dX8_meanError_26 : decode cX8_meanError 26 = .ok (.getfield 163, 3) := by decide +kernel
theorem dX8_meanError_29 : decode cX8_meanError 29 = .ok (.ifCond .eq 18, 3) := by decide +kernel
theorem dX8_meanError_32 : decode cX8_meanError 32 = .ok (.lload_n 1, 1) := by decide +kernel
theorem dX8_meanError_33 : decode cX8_meanError 33 = .ok (.aload_n 0, 1) := by decide +kernel
theorem dX8_meanError_34 : decode cX8_meanError 34 = .ok (.getfield 19, 3) := by decide +kernel
theorem dX8_meanError_37 : decode cX8_meanError 37 = .ok (.iload_n 3, 1) := by decide +kernel
theorem dX8_meanError_38 : decode cX8_meanError 38 = .ok (.invokevirtual 169, 3) := by decide +kernel
theorem dX8_meanError_41 : decode cX8_meanError 41 = .ok (.invokestatic 172, 3) := by decide +kernel
theorem dX8_meanError_44 : decode cX8_meanError 44 = .ok (.i2l, 1) := by decide +kernel
theorem dX8_meanError_45 : decode cX8_meanError 45 = .ok (.ladd, 1) := by decide +kernel
theorem dX8_meanError_46 : decode cX8_meanError 46 = .ok (.lstore_n 1, 1) := by decide +kernel
theorem dX8_meanError_47 : decode cX8_meanError 47 = .ok (.iinc 3 1, 3) := by decide +kernel
theorem dX8_meanError_50 : decode cX8_meanError 50 = .ok (.goto (-46), 3) := by decide +kernel
theorem dX8_meanError_53 : decode cX8_meanError 53 = .ok (.aload_n 0, 1) := by decide +kernel
theorem dX8_meanError_54 : decode cX8_meanError 54 = .ok (.getfield 19, 3) := by decide +kernel
theorem dX8_meanError_57 : decode cX8_meanError 57 = .ok (.invokevirtual 177, 3) := by decide +kernel
theorem dX8_meanError_60 : decode cX8_meanError 60 = .ok (.istore_n 3, 1) := by decide +kernel
theorem dX8_meanError_61 : decode cX8_meanError 61 = .ok (.iload_n 3, 1) := by decide +kernel
theorem dX8_meanError_62 : decode cX8_meanError 62 = .ok (.ifCond .ne 7, 3) := by decide +kernel
theorem dX8_meanError_69 : decode cX8_meanError 69 = .ok (.lload_n 1, 1) := by decide +kernel
theorem dX8_meanError_70 : decode cX8_meanError 70 = .ok (.l2d, 1) := by decide +kernel
theorem dX8_meanError_71 : decode cX8_meanError 71 = .ok (.iload_n 3, 1) := by decide +kernel
theorem dX8_meanError_72 : decode cX8_meanError 72 = .ok (.i2d, 1) := by decide +kernel
theorem dX8_meanError_73 : decode cX8_meanError 73 = .ok (.ddiv, 1) := by decide +kernel
theorem dX8_meanError_74 : decode cX8_meanError 74 = .ok (.dreturn, 1) := by decide +kernel
theorem dX8_propose_0 : decode cX8_propose 0 = .ok (.iload_n 1, 1) := by decide +kernel
theorem dX8_propose_1 : decode cX8_propose 1 = .ok (.ifCond .lt 9, 3) := by decide +kernel
theorem dX8_propose_4 : decode cX8_propose 4 = .ok (.iload_n 1, 1) := by decide +kernel
theorem dX8_propose_5 : decode cX8_propose 5 = .ok (.bipush 99, 2) := by decide +kernel
theorem dX8_propose_7 : decode cX8_propose 7 = .ok (.if_icmp .le 13, 3) := by decide +kernel
theorem dX8_propose_10 : decode cX8_propose 10 = .ok (.new 45, 3) := by decide +kernel
theorem dX8_propose_13 : decode cX8_propose 13 = .ok (.dup, 1) := by decide +kernel
theorem dX8_propose_14 : decode cX8_propose 14 = .ok (.ldc 180, 2) := by decide +kernel
theorem dX8_propose_16 : decode cX8_propose 16 = .ok (.invokespecial 49, 3) := by decide +kernel
theorem dX8_propose_19 : decode cX8_propose 19 = .ok (.athrow, 1) := by decide +kernel
theorem dX8_propose_20 : decode cX8_propose 20 = .ok (.aload_n 0, 1) := by decide +kernel
theorem dX8_propose_21 : decode cX8_propose 21 = .ok (.getfield 19, 3) := by decide +kernel
theorem dX8_propose_24 : decode cX8_propose 24 = .ok (.invokevirtual 148, 3) := by decide +kernel
theorem dX8_propose_27 : decode cX8_propose 27 = .ok (.ifCond .ne 13, 3) := by decide +kernel
theorem dX8_propose_40 : decode cX8_propose 40 = .ok (.aload_n 0, 1) := by decide +kernel
theorem dX8_propose_41 : decode cX8_propose 41 = .ok (.invokevirtual 62, 3) := by decide +kernel
theorem dX8_propose_44 : decode cX8_propose 44 = .ok (.aload_n 0, 1) := by decide +kernel
theorem dX8_propose_45 : decode cX8_propose 45 = .ok (.getfield 19, 3) := by decide +kernel
theorem dX8_propose_48 : decode cX8_propose 48 = .ok (.iload_n 1, 1) := by decide +kernel
theorem dX8_propose_49 : decode cX8_propose 49 = .ok (.aload_n 0, 1) := by decide +kernel
theorem dX8_propose_50 : decode cX8_propose 50 = .ok (.getfield 19, 3) := by decide +kernel
theorem dX8_propose_53 : decode cX8_propose 53 = .ok (.iload_n 1, 1) := by decide +kernel
theorem dX8_propose_54 : decode cX8_propose 54 = .ok (.invokevirtual 187, 3) := by decide +kernel
theorem dX8_propose_57 : decode cX8_propose 57 = .ok (.invokevirtual 152, 3) := by decide +kernel
theorem dX8_propose_60 : decode cX8_propose 60 = .ok (.aload_n 0, 1) := by decide +kernel
theorem dX8_propose_61 : decode cX8_propose 61 = .ok (.getfield 19, 3) := by decide +kernel
theorem dX8_propose_64 : decode cX8_propose 64 = .ok (.getfield 118, 3) := by decide +kernel
theorem dX8_propose_67 : decode cX8_propose 67 = .ok (.getfield 190, 3) := by decide +kernel
theorem dX8_propose_70 : decode cX8_propose 70 = .ok (.ireturn, 1) := by decide +kernel
theorem dX8_ask_0 : decode cX8_ask 0 = .ok (.aload_n 0, 1) := by decide +kernel
theorem dX8_ask_1 : decode cX8_ask 1 = .ok (.iload_n 1, 1) := by decide +kernel
theorem dX8_ask_2 : decode cX8_ask 2 = .ok (.invokevirtual 82, 3) := by decide +kernel
theorem dX8_ask_5 : decode cX8_ask 5 = .ok (.aload_n 0, 1) := by decide +kernel
theorem dX8_ask_6 : decode cX8_ask 6 = .ok (.getfield 19, 3) := by decide +kernel
theorem dX8_ask_9 : decode cX8_ask 9 = .ok (.iload_n 1, 1) := by decide +kernel
theorem dX8_ask_10 : decode cX8_ask 10 = .ok (.invokevirtual 159, 3) := by decide +kernel
theorem dX8_ask_13 : decode cX8_ask 13 = .ok (.getfield 163, 3) := by decide +kernel
theorem dX8_ask_16 : decode cX8_ask 16 = .ok (.ifCond .eq 14, 3) := by decide +kernel
theorem dX8_ask_19 : decode cX8_ask 19 = .ok (.iload_n 1, 1) := by decide +kernel
theorem dX8_ask_20 : decode cX8_ask 20 = .ok (.aload_n 0, 1) := by decide +kernel
theorem dX8_ask_21 : decode cX8_ask 21 = .ok (.getfield 19, 3) := by decide +kernel
theorem dX8_ask_24 : decode cX8_ask 24 = .ok (.getfield 193, 3) := by decide +kernel
theorem dX8_ask_27 : decode cX8_ask 27 = .ok (.if_icmp .ne 13, 3) := by decide +kernel
theorem dX8_ask_30 : decode cX8_ask 30 = .ok (.new 182, 3) := by decide +kernel
theorem dX8_ask_33 : decode cX8_ask 33 = .ok (.dup, 1) := by decide +kernel
theorem dX8_ask_34 : decode cX8_ask 34 = .ok (.ldc 196, 2) := by decide +kernel
theorem dX8_ask_36 : decode cX8_ask 36 = .ok (.invokespecial 186, 3) := by decide +kernel
theorem dX8_ask_39 : decode cX8_ask 39 = .ok (.athrow, 1) := by decide +kernel
theorem dX8_pass_0 : decode cX8_pass 0 = .ok (.iload_n 1, 1) := by decide +kernel
theorem dX8_pass_1 : decode cX8_pass 1 = .ok (.iconst 1, 1) := by decide +kernel
theorem dX8_pass_2 : decode cX8_pass 2 = .ok (.if_icmp .lt 9, 3) := by decide +kernel
theorem dX8_pass_5 : decode cX8_pass 5 = .ok (.iload_n 1, 1) := by decide +kernel
theorem dX8_pass_6 : decode cX8_pass 6 = .ok (.bipush 50, 2) := by decide +kernel
theorem dX8_pass_8 : decode cX8_pass 8 = .ok (.if_icmp .le 13, 3) := by decide +kernel
theorem dX8_pass_11 : decode cX8_pass 11 = .ok (.new 45, 3) := by decide +kernel
theorem dX8_pass_14 : decode cX8_pass 14 = .ok (.dup, 1) := by decide +kernel
theorem dX8_pass_15 : decode cX8_pass 15 = .ok (.ldc 201, 2) := by decide +kernel
theorem dX8_pass_17 : decode cX8_pass 17 = .ok (.invokespecial 49, 3) := by decide +kernel
theorem dX8_pass_20 : decode cX8_pass 20 = .ok (.athrow, 1) := by decide +kernel
theorem dX8_pass_21 : decode cX8_pass 21 = .ok (.aload_n 0, 1) := by decide +kernel
theorem dX8_pass_22 : decode cX8_pass 22 = .ok (.invokevirtual 62, 3) := by decide +kernel
theorem dX8_pass_25 : decode cX8_pass 25 = .ok (.aload_n 0, 1) := by decide +kernel
theorem dX8_pass_26 : decode cX8_pass 26 = .ok (.getfield 19, 3) := by decide +kernel
theorem dX8_pass_29 : decode cX8_pass 29 = .ok (.getfield 203, 3) := by decide +kernel
theorem dX8_pass_32 : decode cX8_pass 32 = .ok (.istore_n 2, 1) := by decide +kernel
theorem dX8_pass_33 : decode cX8_pass 33 = .ok (.iconst 0, 1) := by decide +kernel
theorem dX8_pass_34 : decode cX8_pass 34 = .ok (.istore_n 3, 1) := by decide +kernel
theorem dX8_pass_35 : decode cX8_pass 35 = .ok (.iload_n 3, 1) := by decide +kernel
theorem dX8_pass_36 : decode cX8_pass 36 = .ok (.iload_n 1, 1) := by decide +kernel
theorem dX8_pass_37 : decode cX8_pass 37 = .ok (.if_icmp .ge 16, 3) := by decide +kernel
theorem dX8_pass_40 : decode cX8_pass 40 = .ok (.aload_n 0, 1) := by decide +kernel
theorem dX8_pass_41 : decode cX8_pass 41 = .ok (.getfield 19, 3) := by decide +kernel
theorem dX8_pass_44 : decode cX8_pass 44 = .ok (.invokevirtual 206, 3) := by decide +kernel
theorem dX8_pass_47 : decode cX8_pass 47 = .ok (.iinc 3 1, 3) := by decide +kernel
theorem dX8_pass_50 : decode cX8_pass 50 = .ok (.goto (-15), 3) := by decide +kernel
theorem dX8_pass_53 : decode cX8_pass 53 = .ok (.aload_n 0, 1) := by decide +kernel
theorem dX8_pass_54 : decode cX8_pass 54 = .ok (.getfield 19, 3) := by decide +kernel
theorem dX8_pass_57 : decode cX8_pass 57 = .ok (.getfield 203, 3) := by decide +kernel
theorem dX8_pass_60 : decode cX8_pass 60 = .ok (.iload_n 2, 1) := by decide +kernel
theorem dX8_pass_61 : decode cX8_pass 61 = .ok (.isub, 1) := by decide +kernel
theorem dX8_pass_62 : decode cX8_pass 62 = .ok (.ireturn, 1) := by decide +kernel
theorem dX8_power_0 : decode cX8_power 0 = .ok (.aload_n 0, 1) := by decide +kernel
theorem dX8_power_1 : decode cX8_power 1 = .ok (.iload_n 1, 1) := by decide +kernel
theorem dX8_power_2 : decode cX8_power 2 = .ok (.invokevirtual 82, 3) := by decide +kernel
theorem dX8_power_5 : decode cX8_power 5 = .ok (.aload_n 0, 1) := by decide +kernel
theorem dX8_power_6 : decode cX8_power 6 = .ok (.invokevirtual 62, 3) := by decide +kernel
theorem dX8_power_9 : decode cX8_power 9 = .ok (.aload_n 0, 1) := by decide +kernel
theorem dX8_power_10 : decode cX8_power 10 = .ok (.getfield 19, 3) := by decide +kernel
theorem dX8_power_13 : decode cX8_power 13 = .ok (.iload_n 1, 1) := by decide +kernel
theorem dX8_power_14 : decode cX8_power 14 = .ok (.invokevirtual 159, 3) := by decide +kernel
theorem dX8_power_17 : decode cX8_power 17 = .ok (.iload_n 2, 1) := by decide +kernel
theorem dX8_power_18 : decode cX8_power 18 = .ok (.invokevirtual 209, 3) := by decide +kernel
theorem dX8_power_21 : decode cX8_power 21 = .ok (.ireturn, 1) := by decide +kernel
theorem dX8_cut_0 : decode cX8_cut 0 = .ok (.aload_n 0, 1) := by decide +kernel
theorem dX8_cut_1 : decode cX8_cut 1 = .ok (.iload_n 1, 1) := by decide +kernel
theorem dX8_cut_2 : decode cX8_cut 2 = .ok (.invokevirtual 82, 3) := by decide +kernel
theorem dX8_cut_5 : decode cX8_cut 5 = .ok (.aload_n 0, 1) := by decide +kernel
theorem dX8_cut_6 : decode cX8_cut 6 = .ok (.iload_n 2, 1) := by decide +kernel
theorem dX8_cut_7 : decode cX8_cut 7 = .ok (.invokevirtual 82, 3) := by decide +kernel
theorem dX8_cut_10 : decode cX8_cut 10 = .ok (.aload_n 0, 1) := by decide +kernel
theorem dX8_cut_11 : decode cX8_cut 11 = .ok (.getfield 19, 3) := by decide +kernel
theorem dX8_cut_14 : decode cX8_cut 14 = .ok (.iload_n 1, 1) := by decide +kernel
theorem dX8_cut_15 : decode cX8_cut 15 = .ok (.iload_n 2, 1) := by decide +kernel
theorem dX8_cut_16 : decode cX8_cut 16 = .ok (.invokevirtual 93, 3) := by decide +kernel
theorem dX8_cut_19 : decode cX8_cut 19 = .ok (.ifCond .ne 13, 3) := by decide +kernel
theorem dX8_cut_22 : decode cX8_cut 22 = .ok (.new 182, 3) := by decide +kernel
theorem dX8_cut_25 : decode cX8_cut 25 = .ok (.dup, 1) := by decide +kernel
theorem dX8_cut_26 : decode cX8_cut 26 = .ok (.ldc 213, 2) := by decide +kernel
theorem dX8_cut_28 : decode cX8_cut 28 = .ok (.invokespecial 186, 3) := by decide +kernel
theorem dX8_cut_31 : decode cX8_cut 31 = .ok (.athrow, 1) := by decide +kernel
theorem dX8_lead_0 : decode cX8_lead 0 = .ok (.aload_n 0, 1) := by decide +kernel
theorem dX8_lead_1 : decode cX8_lead 1 = .ok (.iload_n 1, 1) := by decide +kernel
theorem dX8_lead_2 : decode cX8_lead 2 = .ok (.invokevirtual 82, 3) := by decide +kernel
theorem dX8_lead_5 : decode cX8_lead 5 = .ok (.aload_n 0, 1) := by decide +kernel
theorem dX8_lead_6 : decode cX8_lead 6 = .ok (.invokevirtual 62, 3) := by decide +kernel
theorem dX8_lead_9 : decode cX8_lead 9 = .ok (.aload_n 0, 1) := by decide +kernel
theorem dX8_lead_10 : decode cX8_lead 10 = .ok (.getfield 19, 3) := by decide +kernel
theorem dX8_lead_13 : decode cX8_lead 13 = .ok (.getfield 193, 3) := by decide +kernel
theorem dX8_lead_16 : decode cX8_lead 16 = .ok (.istore_n 2, 1) := by decide +kernel
theorem dX8_lead_17 : decode cX8_lead 17 = .ok (.aload_n 0, 1) := by decide +kernel
theorem dX8_lead_18 : decode cX8_lead 18 = .ok (.getfield 19, 3) := by decide +kernel
theorem dX8_lead_21 : decode cX8_lead 21 = .ok (.iload_n 1, 1) := by decide +kernel
theorem dX8_lead_22 : decode cX8_lead 22 = .ok (.invokevirtual 219, 3) := by decide +kernel
theorem dX8_lead_25 : decode cX8_lead 25 = .ok (.iload_n 2, 1) := by decide +kernel
theorem dX8_lead_26 : decode cX8_lead 26 = .ok (.ireturn, 1) := by decide +kernel
theorem dX8_undo_0 : decode cX8_undo 0 = .ok (.aload_n 0, 1) := by decide +kernel
theorem dX8_undo_1 : decode cX8_undo 1 = .ok (.getfield 222, 3) := by decide +kernel
theorem dX8_undo_4 : decode cX8_undo 4 = .ok (.ifCond .ne 5, 3) := by decide +kernel
theorem dX8_undo_7 : decode cX8_undo 7 = .ok (.iconst (-1), 1) := by decide +kernel
theorem dX8_undo_8 : decode cX8_undo 8 = .ok (.ireturn, 1) := by decide +kernel
theorem dX8_checksum_0 : decode cX8_checksum 0 = .ok (.lconst 0, 1) := by decide +kernel
theorem dX8_checksum_1 : decode cX8_checksum 1 = .ok (.lstore_n 1, 1) := by decide +kernel
theorem dX8_checksum_2 : decode cX8_checksum 2 = .ok (.iconst 0, 1) := by decide +kernel
theorem dX8_checksum_3 : decode cX8_checksum 3 = .ok (.istore_n 3, 1) := by decide +kernel
theorem dX8_checksum_4 : decode cX8_checksum 4 = .ok (.iload_n 3, 1) := by decide +kernel
theorem dX8_checksum_5 : decode cX8_checksum 5 = .ok (.bipush 12, 2) := by decide +kernel
theorem dX8_checksum_7 : decode cX8_checksum 7 = .ok (.if_icmp .gt 25, 3) := by decide +kernel
theorem dX8_checksum_10 : decode cX8_checksum 10 = .ok (.ldc2_w 228, 3) := by decide +kernel
theorem dX8_checksum_13 : decode cX8_checksum 13 = .ok (.lload_n 1, 1) := by decide +kernel
theorem dX8_checksum_14 : decode cX8_checksum 14 = .ok (.lmul, 1) := by decide +kernel
theorem dX8_checksum_15 : decode cX8_checksum 15 = .ok (.aload_n 0, 1) := by decide +kernel
theorem dX8_checksum_16 : decode cX8_checksum 16 = .ok (.getfield 19, 3) := by decide +kernel
theorem dX8_checksum_19 : decode cX8_checksum 19 = .ok (.iload_n 3, 1) := by decide +kernel
theorem dX8_checksum_20 : decode cX8_checksum 20 = .ok (.invokevirtual 78, 3) := by decide +kernel
theorem dX8_checksum_23 : decode cX8_checksum 23 = .ok (.i2l, 1) := by decide +kernel
theorem dX8_checksum_24 : decode cX8_checksum 24 = .ok (.ladd, 1) := by decide +kernel
theorem dX8_checksum_25 : decode cX8_checksum 25 = .ok (.lstore_n 1, 1) := by decide +kernel
theorem dX8_checksum_26 : decode cX8_checksum 26 = .ok (.iinc 3 1, 3) := by decide +kernel
theorem dX8_checksum_29 : decode cX8_checksum 29 = .ok (.goto (-25), 3) := by decide +kernel
theorem dX8_checksum_32 : decode cX8_checksum 32 = .ok (.iconst 0, 1) := by decide +kernel
theorem dX8_checksum_33 : decode cX8_checksum 33 = .ok (.istore_n 3, 1) := by decide +kernel
theorem dX8_checksum_34 : decode cX8_checksum 34 = .ok (.iload_n 3, 1) := by decide +kernel
theorem dX8_checksum_35 : decode cX8_checksum 35 = .ok (.aload_n 0, 1) := by decide +kernel
theorem dX8_checksum_36 : decode cX8_checksum 36 = .ok (.getfield 19, 3) := by decide +kernel
theorem dX8_checksum_39 : decode cX8_checksum 39 = .ok (.getfield 155, 3) := by decide +kernel
theorem dX8_checksum_42 : decode cX8_checksum 42 = .ok (.getfield 69, 3) := by decide +kernel
theorem dX8_checksum_45 : decode cX8_checksum 45 = .ok (.if_icmp .ge 43, 3) := by decide +kernel
theorem dX8_checksum_48 : decode cX8_checksum 48 = .ok (.iconst 0, 1) := by decide +kernel
theorem dX8_checksum_49 : decode cX8_checksum 49 = .ok (.istore 4, 2) := by decide +kernel
theorem dX8_checksum_51 : decode cX8_checksum 51 = .ok (.iload 4, 2) := by decide +kernel
theorem dX8_checksum_53 : decode cX8_checksum 53 = .ok (.bipush 9, 2) := by decide +kernel
theorem dX8_checksum_55 : decode cX8_checksum 55 = .ok (.if_icmp .gt 27, 3) := by decide +kernel
theorem dX8_checksum_58 : decode cX8_checksum 58 = .ok (.ldc2_w 228, 3) := by decide +kernel
theorem dX8_checksum_61 : decode cX8_checksum 61 = .ok (.lload_n 1, 1) := by decide +kernel
theorem dX8_checksum_62 : decode cX8_checksum 62 = .ok (.lmul, 1) := by decide +kernel
theorem dX8_checksum_63 : decode cX8_checksum 63 = .ok (.aload_n 0, 1) := by decide +kernel
theorem dX8_checksum_64 : decode cX8_checksum 64 = .ok (.getfield 19, 3) := by decide +kernel
theorem dX8_checksum_67 : decode cX8_checksum 67 = .ok (.iload_n 3, 1) := by decide +kernel
theorem dX8_checksum_68 : decode cX8_checksum 68 = .ok (.iload 4, 2) := by decide +kernel
theorem dX8_checksum_70 : decode cX8_checksum 70 = .ok (.invokevirtual 85, 3) := by decide +kernel
theorem dX8_checksum_73 : decode cX8_checksum 73 = .ok (.i2l, 1) := by decide +kernel
theorem dX8_checksum_74 : decode cX8_checksum 74 = .ok (.ladd, 1) := by decide +kernel
theorem dX8_checksum_75 : decode cX8_checksum 75 = .ok (.lstore_n 1, 1) := by decide +kernel
theorem dX8_checksum_76 : decode cX8_checksum 76 = .ok (.iinc 4 1, 3) := by decide +kernel
theorem dX8_checksum_79 : decode cX8_checksum 79 = .ok (.goto (-28), 3) := by decide +kernel
theorem dX8_checksum_82 : decode cX8_checksum 82 = .ok (.iinc 3 1, 3) := by decide +kernel
theorem dX8_checksum_85 : decode cX8_checksum 85 = .ok (.goto (-51), 3) := by decide +kernel
theorem dX8_checksum_88 : decode cX8_checksum 88 = .ok (.iconst 0, 1) := by decide +kernel
theorem dX8_checksum_89 : decode cX8_checksum 89 = .ok (.istore_n 3, 1) := by decide +kernel
theorem dX8_checksum_90 : decode cX8_checksum 90 = .ok (.iload_n 3, 1) := by decide +kernel
theorem dX8_checksum_91 : decode cX8_checksum 91 = .ok (.aload_n 0, 1) := by decide +kernel
theorem dX8_checksum_92 : decode cX8_checksum 92 = .ok (.getfield 19, 3) := by decide +kernel
theorem dX8_checksum_95 : decode cX8_checksum 95 = .ok (.getfield 96, 3) := by decide +kernel
theorem dX8_checksum_98 : decode cX8_checksum 98 = .ok (.getfield 100, 3) := by decide +kernel
theorem dX8_checksum_101 : decode cX8_checksum 101 = .ok (.if_icmp .ge 42, 3) := by decide +kernel
theorem dX8_checksum_143 : decode cX8_checksum 143 = .ok (.aload_n 0, 1) := by decide +kernel
theorem dX8_checksum_144 : decode cX8_checksum 144 = .ok (.getfield 19, 3) := by decide +kernel
theorem dX8_checksum_147 : decode cX8_checksum 147 = .ok (.getfield 113, 3) := by decide +kernel
theorem dX8_checksum_150 : decode cX8_checksum 150 = .ok (.ifCond .le 53, 3) := by decide +kernel
theorem dX8_checksum_203 : decode cX8_checksum 203 = .ok (.lload_n 1, 1) := by decide +kernel
theorem dX8_checksum_204 : decode cX8_checksum 204 = .ok (.lreturn, 1) := by decide +kernel
theorem dX8_refuseNoPlayer_0 : decode cX8_refuseNoPlayer 0 = .ok (.iload_n 1, 1) := by decide +kernel
theorem dX8_refuseNoPlayer_1 : decode cX8_refuseNoPlayer 1 = .ok (.ifCond .lt 17, 3) := by decide +kernel
theorem dX8_refuseNoPlayer_4 : decode cX8_refuseNoPlayer 4 = .ok (.iload_n 1, 1) := by decide +kernel
theorem dX8_refuseNoPlayer_5 : decode cX8_refuseNoPlayer 5 = .ok (.aload_n 0, 1) := by decide +kernel
theorem dX8_refuseNoPlayer_6 : decode cX8_refuseNoPlayer 6 = .ok (.getfield 19, 3) := by decide +kernel
theorem dX8_refuseNoPlayer_9 : decode cX8_refuseNoPlayer 9 = .ok (.getfield 155, 3) := by decide +kernel
theorem dX8_refuseNoPlayer_12 : decode cX8_refuseNoPlayer 12 = .ok (.getfield 69, 3) := by decide +kernel
theorem dX8_refuseNoPlayer_15 : decode cX8_refuseNoPlayer 15 = .ok (.if_icmp .lt 13, 3) := by decide +kernel
theorem dX8_refuseNoPlayer_18 : decode cX8_refuseNoPlayer 18 = .ok (.new 230, 3) := by decide +kernel
theorem dX8_refuseNoPlayer_21 : decode cX8_refuseNoPlayer 21 = .ok (.dup, 1) := by decide +kernel
theorem dX8_refuseNoPlayer_22 : decode cX8_refuseNoPlayer 22 = .ok (.ldc 232, 2) := by decide +kernel
theorem dX8_refuseNoPlayer_24 : decode cX8_refuseNoPlayer 24 = .ok (.invokespecial 234, 3) := by decide +kernel
theorem dX8_refuseNoPlayer_27 : decode cX8_refuseNoPlayer 27 = .ok (.athrow, 1) := by decide +kernel
theorem dX8_refuseNoPlayer_28 : decode cX8_refuseNoPlayer 28 = .ok (.return_, 1) := by decide +kernel
theorem dX8_refuseWhatOutside_0 : decode cX8_refuseWhatOutside 0 = .ok (.iload_n 1, 1) := by decide +kernel
theorem dX8_refuseWhatOutside_1 : decode cX8_refuseWhatOutside 1 = .ok (.ifCond .lt 8, 3) := by decide +kernel
theorem dX8_refuseWhatOutside_4 : decode cX8_refuseWhatOutside 4 = .ok (.iload_n 1, 1) := by decide +kernel
theorem dX8_refuseWhatOutside_5 : decode cX8_refuseWhatOutside 5 = .ok (.iload_n 2, 1) := by decide +kernel
theorem dX8_refuseWhatOutside_6 : decode cX8_refuseWhatOutside 6 = .ok (.if_icmp .le 13, 3) := by decide +kernel
theorem dX8_refuseWhatOutside_9 : decode cX8_refuseWhatOutside 9 = .ok (.new 45, 3) := by decide +kernel
theorem dX8_refuseWhatOutside_12 : decode cX8_refuseWhatOutside 12 = .ok (.dup, 1) := by decide +kernel
theorem dX8_refuseWhatOutside_13 : decode cX8_refuseWhatOutside 13 = .ok (.ldc 235, 2) := by decide +kernel
theorem dX8_refuseWhatOutside_15 : decode cX8_refuseWhatOutside 15 = .ok (.invokespecial 49, 3) := by decide +kernel
theorem dX8_refuseWhatOutside_18 : decode cX8_refuseWhatOutside 18 = .ok (.athrow, 1) := by decide +kernel
theorem dX8_refuseWhatOutside_19 : decode cX8_refuseWhatOutside 19 = .ok (.return_, 1) := by decide +kernel
theorem dX8_keepForUndo_0 : decode cX8_keepForUndo 0 = .ok (.aload_n 0, 1) := by decide +kernel
theorem dX8_keepForUndo_1 : decode cX8_keepForUndo 1 = .ok (.aload_n 0, 1) := by decide +kernel
theorem dX8_keepForUndo_2 : decode cX8_keepForUndo 2 = .ok (.getfield 225, 3) := by decide +kernel
theorem dX8_keepForUndo_5 : decode cX8_keepForUndo 5 = .ok (.iconst 1, 1) := by decide +kernel
theorem dX8_keepForUndo_6 : decode cX8_keepForUndo 6 = .ok (.iadd, 1) := by decide +kernel
theorem dX8_keepForUndo_7 : decode cX8_keepForUndo 7 = .ok (.bipush 7, 2) := by decide +kernel
theorem dX8_keepForUndo_9 : decode cX8_keepForUndo 9 = .ok (.iand, 1) := by decide +kernel
theorem dX8_keepForUndo_10 : decode cX8_keepForUndo 10 = .ok (.putfield 225, 3) := by decide +kernel
theorem dX8_keepForUndo_13 : decode cX8_keepForUndo 13 = .ok (.aload_n 0, 1) := by decide +kernel
theorem dX8_keepForUndo_14 : decode cX8_keepForUndo 14 = .ok (.getfield 26, 3) := by decide +kernel
theorem dX8_keepForUndo_17 : decode cX8_keepForUndo 17 = .ok (.aload_n 0, 1) := by decide +kernel
theorem dX8_keepForUndo_18 : decode cX8_keepForUndo 18 = .ok (.getfield 225, 3) := by decide +kernel
theorem dX8_keepForUndo_21 : decode cX8_keepForUndo 21 = .ok (.bipush 7, 2) := by decide +kernel
theorem dX8_keepForUndo_23 : decode cX8_keepForUndo 23 = .ok (.iand, 1) := by decide +kernel
theorem dX8_keepForUndo_24 : decode cX8_keepForUndo 24 = .ok (.aaload, 1) := by decide +kernel
theorem dX8_keepForUndo_25 : decode cX8_keepForUndo 25 = .ok (.aload_n 0, 1) := by decide +kernel
theorem dX8_keepForUndo_26 : decode cX8_keepForUndo 26 = .ok (.getfield 19, 3) := by decide +kernel
theorem dX8_keepForUndo_29 : decode cX8_keepForUndo 29 = .ok (.invokevirtual 131, 3) := by decide +kernel
theorem dX8_keepForUndo_32 : decode cX8_keepForUndo 32 = .ok (.aload_n 0, 1) := by decide +kernel
theorem dX8_keepForUndo_33 : decode cX8_keepForUndo 33 = .ok (.getfield 222, 3) := by decide +kernel
theorem dX8_keepForUndo_36 : decode cX8_keepForUndo 36 = .ok (.bipush 8, 2) := by decide +kernel
theorem dX8_keepForUndo_38 : decode cX8_keepForUndo 38 = .ok (.if_icmp .ge 13, 3) := by decide +kernel
theorem dX8_keepForUndo_41 : decode cX8_keepForUndo 41 = .ok (.aload_n 0, 1) := by decide +kernel
theorem dX8_keepForUndo_42 : decode cX8_keepForUndo 42 = .ok (.dup, 1) := by decide +kernel
theorem dX8_keepForUndo_43 : decode cX8_keepForUndo 43 = .ok (.getfield 222, 3) := by decide +kernel
theorem dX8_keepForUndo_46 : decode cX8_keepForUndo 46 = .ok (.iconst 1, 1) := by decide +kernel
theorem dX8_keepForUndo_47 : decode cX8_keepForUndo 47 = .ok (.iadd, 1) := by decide +kernel
theorem dX8_keepForUndo_48 : decode cX8_keepForUndo 48 = .ok (.putfield 222, 3) := by decide +kernel
theorem dX8_keepForUndo_51 : decode cX8_keepForUndo 51 = .ok (.return_, 1) := by decide +kernel
theorem dX9_init_0 : decode cX9_init 0 = .ok (.aload_n 0, 1) := by decide +kernel
theorem dX9_init_1 : decode cX9_init 1 = .ok (.invokespecial 3, 3) := by decide +kernel
theorem dX9_init_4 : decode cX9_init 4 = .ok (.aload_n 0, 1) := by decide +kernel
theorem dX9_init_5 : decode cX9_init 5 = .ok (.sipush 600, 3) := by decide +kernel
theorem dX9_init_8 : decode cX9_init 8 = .ok (.newarray .int, 2) := by decide +kernel
theorem dX9_init_10 : decode cX9_init 10 = .ok (.putfield 9, 3) := by decide +kernel
theorem dX9_init_13 : decode cX9_init 13 = .ok (.aload_n 0, 1) := by decide +kernel
theorem dX9_init_14 : decode cX9_init 14 = .ok (.iconst (-1), 1) := by decide +kernel
theorem dX9_init_15 : decode cX9_init 15 = .ok (.putfield 13, 3) := by decide +kernel
theorem dX9_init_18 : decode cX9_init 18 = .ok (.aload_n 0, 1) := by decide +kernel
theorem dX9_init_19 : decode cX9_init 19 = .ok (.ldc 17, 2) := by decide +kernel
theorem dX9_init_21 : decode cX9_init 21 = .ok (.newarray .int, 2) := by decide +kernel
theorem dX9_init_23 : decode cX9_init 23 = .ok (.putfield 18, 3) := by decide +kernel
theorem dX9_init_26 : decode cX9_init 26 = .ok (.aload_n 0, 1) := by decide +kernel
theorem dX9_init_27 : decode cX9_init 27 = .ok (.ldc 17, 2) := by decide +kernel
theorem dX9_init_29 : decode cX9_init 29 = .ok (.newarray .int, 2) := by decide +kernel
theorem dX9_init_31 : decode cX9_init 31 = .ok (.putfield 21, 3) := by decide +kernel
theorem dX9_init_34 : decode cX9_init 34 = .ok (.aload_n 0, 1) := by decide +kernel
theorem dX9_init_35 : decode cX9_init 35 = .ok (.sipush 1383, 3) := by decide +kernel
theorem dX9_init_38 : decode cX9_init 38 = .ok (.newarray .int, 2) := by decide +kernel
theorem dX9_init_40 : decode cX9_init 40 = .ok (.putfield 24, 3) := by decide +kernel
theorem dX9_init_43 : decode cX9_init 43 = .ok (.aload_n 0, 1) := by decide +kernel
theorem dX9_init_44 : decode cX9_init 44 = .ok (.bipush 8, 2) := by decide +kernel
theorem dX9_init_46 : decode cX9_init 46 = .ok (.ldc 17, 2) := by decide +kernel
theorem dX9_init_48 : decode cX9_init 48 = .ok (.multianewarray 27 2, 4) := by decide +kernel
theorem dX9_init_52 : decode cX9_init 52 = .ok (.putfield 29, 3) := by decide +kernel
theorem dX9_init_55 : decode cX9_init 55 = .ok (.aload_n 0, 1) := by decide +kernel
theorem dX9_init_56 : decode cX9_init 56 = .ok (.sipush 1200, 3) := by decide +kernel
theorem dX9_init_59 : decode cX9_init 59 = .ok (.newarray .long, 2) := by decide +kernel
theorem dX9_init_61 : decode cX9_init 61 = .ok (.putfield 32, 3) := by decide +kernel
theorem dX9_init_64 : decode cX9_init 64 = .ok (.aload_n 0, 1) := by decide +kernel
theorem dX9_init_65 : decode cX9_init 65 = .ok (.getfield 18, 3) := by decide +kernel
theorem dX9_init_68 : decode cX9_init 68 = .ok (.iconst 1, 1) := by decide +kernel
theorem dX9_init_69 : decode cX9_init 69 = .ok (.invokestatic 36, 3) := by decide +kernel
theorem dX9_init_72 : decode cX9_init 72 = .ok (.return_, 1) := by decide +kernel
theorem dX9_thrown_0 : decode cX9_thrown 0 = .ok (.aload_n 0, 1) := by decide +kernel
theorem dX9_thrown_1 : decode cX9_thrown 1 = .ok (.getfield 40, 3) := by decide +kernel
theorem dX9_thrown_4 : decode cX9_thrown 4 = .ok (.ireturn, 1) := by decide +kernel
theorem dX9_fails_0 : decode cX9_fails 0 = .ok (.iload_n 1, 1) := by decide +kernel
theorem dX9_fails_1 : decode cX9_fails 1 = .ok (.ifCond .eq 15, 3) := by decide +kernel
theorem dX9_fails_4 : decode cX9_fails 4 = .ok (.aload_n 0, 1) := by decide +kernel
theorem dX9_fails_5 : decode cX9_fails 5 = .ok (.getfield 40, 3) := by decide +kernel
theorem dX9_fails_8 : decode cX9_fails 8 = .ok (.ifCond .ne 8, 3) := by decide +kernel
theorem dX9_fails_11 : decode cX9_fails 11 = .ok (.aload_n 0, 1) := by decide +kernel
theorem dX9_fails_12 : decode cX9_fails 12 = .ok (.iload_n 2, 1) := by decide +kernel
theorem dX9_fails_13 : decode cX9_fails 13 = .ok (.putfield 40, 3) := by decide +kernel
theorem dX9_fails_16 : decode cX9_fails 16 = .ok (.aload_n 0, 1) := by decide +kernel
theorem dX9_fails_17 : decode cX9_fails 17 = .ok (.getfield 40, 3) := by decide +kernel
theorem dX9_fails_20 : decode cX9_fails 20 = .ok (.ifCond .eq 7, 3) := by decide +kernel
theorem dX9_fails_23 : decode cX9_fails 23 = .ok (.iconst 1, 1) := by decide +kernel
theorem dX9_fails_24 : decode cX9_fails 24 = .ok (.goto 4, 3) := by decide +kernel
theorem dX9_fails_27 : decode cX9_fails 27 = .ok (.iconst 0, 1) := by decide +kernel
theorem dX9_fails_28 : decode cX9_fails 28 = .ok (.ireturn, 1) := by decide +kernel
theorem dX9_in_0 : decode cX9_in 0 = .ok (.iload_n 0, 1) := by decide +kernel
theorem dX9_in_1 : decode cX9_in 1 = .ok (.iload_n 1, 1) := by decide +kernel
theorem dX9_in_2 : decode cX9_in 2 = .ok (.if_icmp .lt 12, 3) := by decide +kernel
theorem dX9_in_5 : decode cX9_in 5 = .ok (.iload_n 0, 1) := by decide +kernel
theorem dX9_in_6 : decode cX9_in 6 = .ok (.iload_n 2, 1) := by decide +kernel
theorem dX9_in_7 : decode cX9_in 7 = .ok (.if_icmp .gt 7, 3) := by decide +kernel
theorem dX9_in_10 : decode cX9_in 10 = .ok (.iconst 1, 1) := by decide +kernel
theorem dX9_in_11 : decode cX9_in 11 = .ok (.goto 4, 3) := by decide +kernel
theorem dX9_in_14 : decode cX9_in 14 = .ok (.iconst 0, 1) := by decide +kernel
theorem dX9_in_15 : decode cX9_in 15 = .ok (.ireturn, 1) := by decide +kernel
theorem dX9_min_0 : decode cX9_min 0 = .ok (.iload_n 0, 1) := by decide +kernel
theorem dX9_min_1 : decode cX9_min 1 = .ok (.iload_n 1, 1) := by decide +kernel
theorem dX9_min_2 : decode cX9_min 2 = .ok (.if_icmp .ge 7, 3) := by decide +kernel
theorem dX9_min_9 : decode cX9_min 9 = .ok (.iload_n 1, 1) := by decide +kernel
theorem dX9_min_10 : decode cX9_min 10 = .ok (.ireturn, 1) := by decide +kernel
theorem dX9_max_0 : decode cX9_max 0 = .ok (.iload_n 0, 1) := by decide +kernel
theorem dX9_max_1 : decode cX9_max 1 = .ok (.iload_n 1, 1) := by decide +kernel
theorem dX9_max_2 : decode cX9_max 2 = .ok (.if_icmp .le 7, 3) := by decide +kernel
theorem dX9_max_9 : decode cX9_max 9 = .ok (.iload_n 1, 1) := by decide +kernel
theorem dX9_max_10 : decode cX9_max 10 = .ok (.ireturn, 1) := by decide +kernel
theorem dX9_copy_0 : decode cX9_copy 0 = .ok (.sipush 1383, 3) := by decide +kernel
theorem dX9_copy_3 : decode cX9_copy 3 = .ok (.bipush 6, 2) := by decide +kernel
theorem dX9_copy_5 : decode cX9_copy 5 = .ok (.aload_n 0, 1) := by decide +kernel
theorem dX9_copy_6 : decode cX9_copy 6 = .ok (.iconst 3, 1) := by decide +kernel
theorem dX9_copy_7 : decode cX9_copy 7 = .ok (.iaload, 1) := by decide +kernel
theorem dX9_copy_8 : decode cX9_copy 8 = .ok (.imul, 1) := by decide +kernel
theorem dX9_copy_9 : decode cX9_copy 9 = .ok (.iadd, 1) := by decide +kernel
theorem dX9_copy_10 : decode cX9_copy 10 = .ok (.istore_n 2, 1) := by decide +kernel
theorem dX9_copy_11 : decode cX9_copy 11 = .ok (.iconst 0, 1) := by decide +kernel
theorem dX9_copy_12 : decode cX9_copy 12 = .ok (.istore_n 3, 1) := by decide +kernel
theorem dX9_copy_13 : decode cX9_copy 13 = .ok (.iload_n 3, 1) := by decide +kernel
theorem dX9_copy_14 : decode cX9_copy 14 = .ok (.iload_n 2, 1) := by decide +kernel
theorem dX9_copy_15 : decode cX9_copy 15 = .ok (.if_icmp .ge 15, 3) := by decide +kernel
theorem dX9_copy_18 : decode cX9_copy 18 = .ok (.aload_n 1, 1) := by decide +kernel
theorem dX9_copy_19 : decode cX9_copy 19 = .ok (.iload_n 3, 1) := by decide +kernel
theorem dX9_copy_20 : decode cX9_copy 20 = .ok (.aload_n 0, 1) := by decide +kernel
theorem dX9_copy_21 : decode cX9_copy 21 = .ok (.iload_n 3, 1) := by decide +kernel
theorem dX9_copy_22 : decode cX9_copy 22 = .ok (.iaload, 1) := by decide +kernel
theorem dX9_copy_23 : decode cX9_copy 23 = .ok (.iastore, 1) := by decide +kernel
theorem dX9_copy_24 : decode cX9_copy 24 = .ok (.iinc 3 1, 3) := by decide +kernel
theorem dX9_copy_27 : decode cX9_copy 27 = .ok (.goto (-14), 3) := by decide +kernel
theorem dX9_copy_30 : decode cX9_copy 30 = .ok (.return_, 1) := by decide +kernel
theorem dX9_layPlayers_0 : decode cX9_layPlayers 0 = .ok (.iconst 0, 1) := by decide +kernel
theorem dX9_layPlayers_1 : decode cX9_layPlayers 1 = .ok (.istore_n 2, 1) := by decide +kernel
theorem dX9_layPlayers_2 : decode cX9_layPlayers 2 = .ok (.iload_n 2, 1) := by decide +kernel
theorem dX9_layPlayers_3 : decode cX9_layPlayers 3 = .ok (.sipush 1383, 3) := by decide +kernel
theorem dX9_layPlayers_6 : decode cX9_layPlayers 6 = .ok (.if_icmp .ge 13, 3) := by decide +kernel
theorem dX9_layPlayers_9 : decode cX9_layPlayers 9 = .ok (.aload_n 0, 1) := by decide +kernel
theorem dX9_layPlayers_10 : decode cX9_layPlayers 10 = .ok (.iload_n 2, 1) := by decide +kernel
theorem dX9_layPlayers_11 : decode cX9_layPlayers 11 = .ok (.iconst 0, 1) := by decide +kernel
theorem dX9_layPlayers_12 : decode cX9_layPlayers 12 = .ok (.iastore, 1) := by decide +kernel
theorem dX9_layPlayers_13 : decode cX9_layPlayers 13 = .ok (.iinc 2 1, 3) := by decide +kernel
theorem dX9_layPlayers_16 : decode cX9_layPlayers 16 = .ok (.goto (-14), 3) := by decide +kernel
theorem dX9_layPlayers_19 : decode cX9_layPlayers 19 = .ok (.aload_n 0, 1) := by decide +kernel
theorem dX9_layPlayers_20 : decode cX9_layPlayers 20 = .ok (.iconst 0, 1) := by decide +kernel
theorem dX9_layPlayers_21 : decode cX9_layPlayers 21 = .ok (.iload_n 1, 1) := by decide +kernel
theorem dX9_layPlayers_22 : decode cX9_layPlayers 22 = .ok (.iastore, 1) := by decide +kernel
theorem dX9_layPlayers_23 : decode cX9_layPlayers 23 = .ok (.aload_n 0, 1) := by decide +kernel
theorem dX9_layPlayers_24 : decode cX9_layPlayers 24 = .ok (.bipush 11, 2) := by decide +kernel
theorem dX9_layPlayers_26 : decode cX9_layPlayers 26 = .ok (.iload_n 1, 1) := by decide +kernel
theorem dX9_layPlayers_27 : decode cX9_layPlayers 27 = .ok (.iastore, 1) := by decide +kernel
theorem dX9_layPlayers_28 : decode cX9_layPlayers 28 = .ok (.aload_n 0, 1) := by decide +kernel
theorem dX9_layPlayers_29 : decode cX9_layPlayers 29 = .ok (.bipush 12, 2) := by decide +kernel
theorem dX9_layPlayers_31 : decode cX9_layPlayers 31 = .ok (.bipush 50, 2) := by decide +kernel
theorem dX9_layPlayers_33 : decode cX9_layPlayers 33 = .ok (.iastore, 1) := by decide +kernel
theorem dX9_layPlayers_34 : decode cX9_layPlayers 34 = .ok (.aload_n 0, 1) := by decide +kernel
theorem dX9_layPlayers_35 : decode cX9_layPlayers 35 = .ok (.bipush 21, 2) := by decide +kernel
theorem dX9_layPlayers_37 : decode cX9_layPlayers 37 = .ok (.iconst (-1), 1) := by decide +kernel
theorem dX9_layPlayers_38 : decode cX9_layPlayers 38 = .ok (.iastore, 1) := by decide +kernel
theorem dX9_layPlayers_39 : decode cX9_layPlayers 39 = .ok (.aload_n 0, 1) := by decide +kernel
theorem dX9_layPlayers_40 : decode cX9_layPlayers 40 = .ok (.bipush 22, 2) := by decide +kernel
theorem dX9_layPlayers_42 : decode cX9_layPlayers 42 = .ok (.iconst (-1), 1) := by decide +kernel
theorem dX9_layPlayers_43 : decode cX9_layPlayers 43 = .ok (.iastore, 1) := by decide +kernel
theorem dX9_layPlayers_44 : decode cX9_layPlayers 44 = .ok (.iconst 0, 1) := by decide +kernel
theorem dX9_layPlayers_45 : decode cX9_layPlayers 45 = .ok (.istore_n 2, 1) := by decide +kernel
theorem dX9_layPlayers_46 : decode cX9_layPlayers 46 = .ok (.iload_n 2, 1) := by decide +kernel
theorem dX9_layPlayers_47 : decode cX9_layPlayers 47 = .ok (.bipush 8, 2) := by decide +kernel
theorem dX9_layPlayers_49 : decode cX9_layPlayers 49 = .ok (.if_icmp .ge 38, 3) := by decide +kernel
theorem dX9_layPlayers_52 : decode cX9_layPlayers 52 = .ok (.aload_n 0, 1) := by decide +kernel
theorem dX9_layPlayers_53 : decode cX9_layPlayers 53 = .ok (.iload_n 2, 1) := by decide +kernel
theorem dX9_layPlayers_54 : decode cX9_layPlayers 54 = .ok (.invokestatic 43, 3) := by decide +kernel
theorem dX9_layPlayers_57 : decode cX9_layPlayers 57 = .ok (.iconst 0, 1) := by decide +kernel
theorem dX9_layPlayers_58 : decode cX9_layPlayers 58 = .ok (.iadd, 1) := by decide +kernel
theorem dX9_layPlayers_59 : decode cX9_layPlayers 59 = .ok (.iconst 1, 1) := by decide +kernel
theorem dX9_layPlayers_60 : decode cX9_layPlayers 60 = .ok (.iastore, 1) := by decide +kernel
theorem dX9_layPlayers_61 : decode cX9_layPlayers 61 = .ok (.aload_n 0, 1) := by decide +kernel
theorem dX9_layPlayers_62 : decode cX9_layPlayers 62 = .ok (.iload_n 2, 1) := by decide +kernel
theorem dX9_layPlayers_63 : decode cX9_layPlayers 63 = .ok (.invokestatic 43, 3) := by decide +kernel
theorem dX9_layPlayers_66 : decode cX9_layPlayers 66 = .ok (.bipush 6, 2) := by decide +kernel
theorem dX9_layPlayers_68 : decode cX9_layPlayers 68 = .ok (.iadd, 1) := by decide +kernel
theorem dX9_layPlayers_69 : decode cX9_layPlayers 69 = .ok (.iconst (-1), 1) := by decide +kernel
theorem dX9_layPlayers_70 : decode cX9_layPlayers 70 = .ok (.iastore, 1) := by decide +kernel
theorem dX9_layPlayers_71 : decode cX9_layPlayers 71 = .ok (.aload_n 0, 1) := by decide +kernel
theorem dX9_layPlayers_72 : decode cX9_layPlayers 72 = .ok (.iload_n 2, 1) := by decide +kernel
theorem dX9_layPlayers_73 : decode cX9_layPlayers 73 = .ok (.invokestatic 43, 3) := by decide +kernel
theorem dX9_layPlayers_76 : decode cX9_layPlayers 76 = .ok (.bipush 11, 2) := by decide +kernel
theorem dX9_layPlayers_78 : decode cX9_layPlayers 78 = .ok (.iadd, 1) := by decide +kernel
theorem dX9_layPlayers_79 : decode cX9_layPlayers 79 = .ok (.iconst (-1), 1) := by decide +kernel
theorem dX9_layPlayers_80 : decode cX9_layPlayers 80 = .ok (.iastore, 1) := by decide +kernel
theorem dX9_layPlayers_81 : decode cX9_layPlayers 81 = .ok (.iinc 2 1, 3) := by decide +kernel
theorem dX9_layPlayers_84 : decode cX9_layPlayers 84 = .ok (.goto (-38), 3) := by decide +kernel
theorem dX9_layPlayers_87 : decode cX9_layPlayers 87 = .ok (.return_, 1) := by decide +kernel
theorem dX9_append_0 : decode cX9_append 0 = .ok (.aload_n 0, 1) := by decide +kernel
theorem dX9_append_1 : decode cX9_append 1 = .ok (.iconst 0, 1) := by decide +kernel
theorem dX9_append_2 : decode cX9_append 2 = .ok (.putfield 40, 3) := by decide +kernel
theorem dX9_append_5 : decode cX9_append 5 = .ok (.aload_n 0, 1) := by decide +kernel
theorem dX9_append_6 : decode cX9_append 6 = .ok (.getfield 47, 3) := by decide +kernel
theorem dX9_append_9 : decode cX9_append 9 = .ok (.bipush 20, 2) := by decide +kernel
theorem dX9_append_11 : decode cX9_append 11 = .ok (.iadd, 1) := by decide +kernel
theorem dX9_append_12 : decode cX9_append 12 = .ok (.sipush 600, 3) := by decide +kernel
theorem dX9_append_15 : decode cX9_append 15 = .ok (.if_icmp .le 5, 3) := by decide +kernel
theorem dX9_append_20 : decode cX9_append 20 = .ok (.iconst 0, 1) := by decide +kernel
theorem dX9_append_21 : decode cX9_append 21 = .ok (.istore 6, 2) := by decide +kernel
theorem dX9_append_23 : decode cX9_append 23 = .ok (.iload 6, 2) := by decide +kernel
theorem dX9_append_25 : decode cX9_append 25 = .ok (.bipush 20, 2) := by decide +kernel
theorem dX9_append_27 : decode cX9_append 27 = .ok (.if_icmp .ge 93, 3) := by decide +kernel
theorem dX9_append_30 : decode cX9_append 30 = .ok (.iload 6, 2) := by decide +kernel
theorem dX9_append_32 : decode cX9_append 32 = .ok (.iconst 4, 1) := by decide +kernel
theorem dX9_append_33 : decode cX9_append 33 = .ok (.if_icmp .ge 7, 3) := by decide +kernel
theorem dX9_append_36 : decode cX9_append 36 = .ok (.iload_n 1, 1) := by decide +kernel
theorem dX9_append_37 : decode cX9_append 37 = .ok (.goto 39, 3) := by decide +kernel
theorem dX9_append_40 : decode cX9_append 40 = .ok (.iload 6, 2) := by decide +kernel
theorem dX9_append_42 : decode cX9_append 42 = .ok (.bipush 8, 2) := by decide +kernel
theorem dX9_append_44 : decode cX9_append 44 = .ok (.if_icmp .ge 7, 3) := by decide +kernel
theorem dX9_append_47 : decode cX9_append 47 = .ok (.iload_n 2, 1) := by decide +kernel
theorem dX9_append_48 : decode cX9_append 48 = .ok (.goto 28, 3) := by decide +kernel
theorem dX9_append_51 : decode cX9_append 51 = .ok (.iload 6, 2) := by decide +kernel
theorem dX9_append_53 : decode cX9_append 53 = .ok (.bipush 12, 2) := by decide +kernel
theorem dX9_append_55 : decode cX9_append 55 = .ok (.if_icmp .ge 7, 3) := by decide +kernel
theorem dX9_append_58 : decode cX9_append 58 = .ok (.iload_n 3, 1) := by decide +kernel
theorem dX9_append_59 : decode cX9_append 59 = .ok (.goto 17, 3) := by decide +kernel
theorem dX9_append_62 : decode cX9_append 62 = .ok (.iload 6, 2) := by decide +kernel
theorem dX9_append_64 : decode cX9_append 64 = .ok (.bipush 16, 2) := by decide +kernel
theorem dX9_append_66 : decode cX9_append 66 = .ok (.if_icmp .ge 8, 3) := by decide +kernel
theorem dX9_append_69 : decode cX9_append 69 = .ok (.iload 4, 2) := by decide +kernel
theorem dX9_append_71 : decode cX9_append 71 = .ok (.goto 5, 3) := by decide +kernel
theorem dX9_append_74 : decode cX9_append 74 = .ok (.iload 5, 2) := by decide +kernel
theorem dX9_append_76 : decode cX9_append 76 = .ok (.istore 7, 2) := by decide +kernel
theorem dX9_append_78 : decode cX9_append 78 = .ok (.aload_n 0, 1) := by decide +kernel
theorem dX9_append_79 : decode cX9_append 79 = .ok (.getfield 9, 3) := by decide +kernel
theorem dX9_append_82 : decode cX9_append 82 = .ok (.aload_n 0, 1) := by decide +kernel
theorem dX9_append_83 : decode cX9_append 83 = .ok (.getfield 47, 3) := by decide +kernel
theorem dX9_append_86 : decode cX9_append 86 = .ok (.iload 7, 2) := by decide +kernel
theorem dX9_append_88 : decode cX9_append 88 = .ok (.bipush 24, 2) := by decide +kernel
theorem dX9_append_90 : decode cX9_append 90 = .ok (.bipush 8, 2) := by decide +kernel
theorem dX9_append_92 : decode cX9_append 92 = .ok (.iload 6, 2) := by decide +kernel
theorem dX9_append_94 : decode cX9_append 94 = .ok (.iconst 4, 1) := by decide +kernel
theorem dX9_append_95 : decode cX9_append 95 = .ok (.irem, 1) := by decide +kernel
theorem dX9_append_96 : decode cX9_append 96 = .ok (.imul, 1) := by decide +kernel
theorem dX9_append_97 : decode cX9_append 97 = .ok (.isub, 1) := by decide +kernel
theorem dX9_append_98 : decode cX9_append 98 = .ok (.ishr, 1) := by decide +kernel
theorem dX9_append_99 : decode cX9_append 99 = .ok (.sipush 255, 3) := by decide +kernel
theorem dX9_append_102 : decode cX9_append 102 = .ok (.iand, 1) := by decide +kernel
theorem dX9_append_103 : decode cX9_append 103 = .ok (.iastore, 1) := by decide +kernel
theorem dX9_append_104 : decode cX9_append 104 = .ok (.aload_n 0, 1) := by decide +kernel
theorem dX9_append_105 : decode cX9_append 105 = .ok (.dup, 1) := by decide +kernel
theorem dX9_append_106 : decode cX9_append 106 = .ok (.getfield 47, 3) := by decide +kernel
theorem dX9_append_109 : decode cX9_append 109 = .ok (.iconst 1, 1) := by decide +kernel
theorem dX9_append_110 : decode cX9_append 110 = .ok (.iadd, 1) := by decide +kernel
theorem dX9_append_111 : decode cX9_append 111 = .ok (.putfield 47, 3) := by decide +kernel
theorem dX9_append_114 : decode cX9_append 114 = .ok (.iinc 6 1, 3) := by decide +kernel
theorem dX9_append_117 : decode cX9_append 117 = .ok (.goto (-94), 3) := by decide +kernel
theorem dX9_append_120 : decode cX9_append 120 = .ok (.aload_n 0, 1) := by decide +kernel
theorem dX9_append_121 : decode cX9_append 121 = .ok (.getfield 47, 3) := by decide +kernel
theorem dX9_append_124 : decode cX9_append 124 = .ok (.ireturn, 1) := by decide +kernel
theorem dX9_byteAt_0 : decode cX9_byteAt 0 = .ok (.iload_n 1, 1) := by decide +kernel
theorem dX9_byteAt_1 : decode cX9_byteAt 1 = .ok (.aload_n 0, 1) := by decide +kernel
theorem dX9_byteAt_2 : decode cX9_byteAt 2 = .ok (.getfield 50, 3) := by decide +kernel
theorem dX9_byteAt_5 : decode cX9_byteAt 5 = .ok (.if_icmp .ge 12, 3) := by decide +kernel
theorem dX9_byteAt_17 : decode cX9_byteAt 17 = .ok (.iconst (-1), 1) := by decide +kernel
theorem dX9_byteAt_18 : decode cX9_byteAt 18 = .ok (.ireturn, 1) := by decide +kernel
theorem dX9_ahead_0 : decode cX9_ahead 0 = .ok (.aload_n 0, 1) := by decide +kernel
theorem dX9_ahead_1 : decode cX9_ahead 1 = .ok (.aload_n 0, 1) := by decide +kernel
theorem dX9_ahead_2 : decode cX9_ahead 2 = .ok (.getfield 53, 3) := by decide +kernel
theorem dX9_ahead_5 : decode cX9_ahead 5 = .ok (.invokevirtual 56, 3) := by decide +kernel
theorem dX9_ahead_8 : decode cX9_ahead 8 = .ok (.bipush 32, 2) := by decide +kernel
theorem dX9_ahead_10 : decode cX9_ahead 10 = .ok (.if_icmp .ne 16, 3) := by decide +kernel
theorem dX9_ahead_26 : decode cX9_ahead 26 = .ok (.aload_n 0, 1) := by decide +kernel
theorem dX9_ahead_27 : decode cX9_ahead 27 = .ok (.aload_n 0, 1) := by decide +kernel
theorem dX9_ahead_28 : decode cX9_ahead 28 = .ok (.getfield 53, 3) := by decide +kernel
theorem dX9_ahead_31 : decode cX9_ahead 31 = .ok (.invokevirtual 56, 3) := by decide +kernel
theorem dX9_ahead_34 : decode cX9_ahead 34 = .ok (.ireturn, 1) := by decide +kernel
theorem dX9_isGood_0 : decode cX9_isGood 0 = .ok (.aload_n 0, 1) := by decide +kernel
theorem dX9_isGood_1 : decode cX9_isGood 1 = .ok (.getfield 59, 3) := by decide +kernel
theorem dX9_isGood_4 : decode cX9_isGood 4 = .ok (.ifCond .ne 7, 3) := by decide +kernel
theorem dX9_isGood_7 : decode cX9_isGood 7 = .ok (.iconst 1, 1) := by decide +kernel
theorem dX9_isGood_8 : decode cX9_isGood 8 = .ok (.goto 4, 3) := by decide +kernel
theorem dX9_isGood_12 : decode cX9_isGood 12 = .ok (.ireturn, 1) := by decide +kernel
theorem dX9_load_0 : decode cX9_load 0 = .ok (.aload_n 0, 1) := by decide +kernel
theorem dX9_load_1 : decode cX9_load 1 = .ok (.iconst 0, 1) := by decide +kernel
theorem dX9_load_2 : decode cX9_load 2 = .ok (.putfield 40, 3) := by decide +kernel
theorem dX9_load_5 : decode cX9_load 5 = .ok (.aload_n 0, 1) := by decide +kernel
theorem dX9_load_6 : decode cX9_load 6 = .ok (.iload_n 1, 1) := by decide +kernel
theorem dX9_load_7 : decode cX9_load 7 = .ok (.iconst 0, 1) := by decide +kernel
theorem dX9_load_8 : decode cX9_load 8 = .ok (.aload_n 0, 1) := by decide +kernel
theorem dX9_load_9 : decode cX9_load 9 = .ok (.getfield 47, 3) := by decide +kernel
theorem dX9_load_12 : decode cX9_load 12 = .ok (.invokestatic 65, 3) := by decide +kernel
theorem dX9_load_15 : decode cX9_load 15 = .ok (.ifCond .ne 7, 3) := by decide +kernel
theorem dX9_load_18 : decode cX9_load 18 = .ok (.iconst 1, 1) := by decide +kernel
theorem dX9_load_19 : decode cX9_load 19 = .ok (.goto 4, 3) := by decide +kernel
theorem dX9_load_23 : decode cX9_load 23 = .ok (.iconst 1, 1) := by decide +kernel
theorem dX9_load_24 : decode cX9_load 24 = .ok (.invokevirtual 167, 3) := by decide +kernel
theorem dX9_load_27 : decode cX9_load 27 = .ok (.ifCond .eq 5, 3) := by decide +kernel
theorem dX9_load_30 : decode cX9_load 30 = .ok (.iconst 0, 1) := by decide +kernel
theorem dX9_load_31 : decode cX9_load 31 = .ok (.ireturn, 1) := by decide +kernel
theorem dX9_errorOffset_0 : decode cX9_errorOffset 0 = .ok (.aload_n 0, 1) := by decide +kernel
theorem dX9_errorOffset_1 : decode cX9_errorOffset 1 = .ok (.iconst 0, 1) := by decide +kernel
theorem dX9_errorOffset_2 : decode cX9_errorOffset 2 = .ok (.putfield 40, 3) := by decide +kernel
theorem dX9_errorOffset_5 : decode cX9_errorOffset 5 = .ok (.aload_n 0, 1) := by decide +kernel
theorem dX9_errorOffset_6 : decode cX9_errorOffset 6 = .ok (.getfield 13, 3) := by decide +kernel
theorem dX9_errorOffset_9 : decode cX9_errorOffset 9 = .ok (.ireturn, 1) := by decide +kernel
theorem dX9_playerAt_0 : decode cX9_playerAt 0 = .ok (.bipush 23, 2) := by decide +kernel
theorem dX9_playerAt_2 : decode cX9_playerAt 2 = .ok (.bipush 12, 2) := by decide +kernel
theorem dX9_playerAt_4 : decode cX9_playerAt 4 = .ok (.iload_n 0, 1) := by decide +kernel
theorem dX9_playerAt_5 : decode cX9_playerAt 5 = .ok (.imul, 1) := by decide +kernel
theorem dX9_playerAt_6 : decode cX9_playerAt 6 = .ok (.iadd, 1) := by decide +kernel
theorem dX9_playerAt_7 : decode cX9_playerAt 7 = .ok (.ireturn, 1) := by decide +kernel
theorem dX9_linkAt_0 : decode cX9_linkAt 0 = .ok (.bipush 119, 2) := by decide +kernel
theorem dX9_linkAt_2 : decode cX9_linkAt 2 = .ok (.bipush 8, 2) := by decide +kernel
theorem dX9_linkAt_4 : decode cX9_linkAt 4 = .ok (.iload_n 0, 1) := by decide +kernel
theorem dX9_linkAt_5 : decode cX9_linkAt 5 = .ok (.imul, 1) := by decide +kernel
theorem dX9_linkAt_6 : decode cX9_linkAt 6 = .ok (.iadd, 1) := by decide +kernel
theorem dX9_linkAt_7 : decode cX9_linkAt 7 = .ok (.iload_n 1, 1) := by decide +kernel
theorem dX9_linkAt_8 : decode cX9_linkAt 8 = .ok (.iadd, 1) := by decide +kernel
theorem dX9_linkAt_9 : decode cX9_linkAt 9 = .ok (.ireturn, 1) := by decide +kernel
theorem dX9_of_0 : decode cX9_of 0 = .ok (.aload_n 0, 1) := by decide +kernel
theorem dX9_of_1 : decode cX9_of 1 = .ok (.getfield 18, 3) := by decide +kernel
theorem dX9_of_4 : decode cX9_of 4 = .ok (.iload_n 1, 1) := by decide +kernel
theorem dX9_of_5 : decode cX9_of 5 = .ok (.invokestatic 43, 3) := by decide +kernel
theorem dX9_of_8 : decode cX9_of 8 = .ok (.iload_n 2, 1) := by decide +kernel
theorem dX9_of_9 : decode cX9_of 9 = .ok (.iadd, 1) := by decide +kernel
theorem dX9_of_10 : decode cX9_of 10 = .ok (.iaload, 1) := by decide +kernel
theorem dX9_of_11 : decode cX9_of 11 = .ok (.ireturn, 1) := by decide +kernel
theorem dX9_set_0 : decode cX9_set 0 = .ok (.aload_n 0, 1) := by decide +kernel
theorem dX9_set_1 : decode cX9_set 1 = .ok (.getfield 18, 3) := by decide +kernel
theorem dX9_set_4 : decode cX9_set 4 = .ok (.iload_n 1, 1) := by decide +kernel
theorem dX9_set_5 : decode cX9_set 5 = .ok (.invokestatic 43, 3) := by decide +kernel
theorem dX9_set_8 : decode cX9_set 8 = .ok (.iload_n 2, 1) := by decide +kernel
theorem dX9_set_9 : decode cX9_set 9 = .ok (.iadd, 1) := by decide +kernel
theorem dX9_set_10 : decode cX9_set 10 = .ok (.iload_n 3, 1) := by decide +kernel
theorem dX9_set_11 : decode cX9_set 11 = .ok (.iastore, 1) := by decide +kernel
theorem dX9_set_12 : decode cX9_set 12 = .ok (.return_, 1) := by decide +kernel
theorem dX9_isUp_0 : decode cX9_isUp 0 = .ok (.aload_n 0, 1) := by decide +kernel
theorem dX9_isUp_1 : decode cX9_isUp 1 = .ok (.iload_n 1, 1) := by decide +kernel
theorem dX9_isUp_2 : decode cX9_isUp 2 = .ok (.iconst 0, 1) := by decide +kernel
theorem dX9_isUp_3 : decode cX9_isUp 3 = .ok (.invokevirtual 181, 3) := by decide +kernel
theorem dX9_isUp_6 : decode cX9_isUp 6 = .ok (.iconst 1, 1) := by decide +kernel
theorem dX9_isUp_7 : decode cX9_isUp 7 = .ok (.if_icmp .ne 7, 3) := by decide +kernel
theorem dX9_isUp_10 : decode cX9_isUp 10 = .ok (.iconst 1, 1) := by decide +kernel
theorem dX9_isUp_11 : decode cX9_isUp 11 = .ok (.goto 4, 3) := by decide +kernel
theorem dX9_isUp_15 : decode cX9_isUp 15 = .ok (.ireturn, 1) := by decide +kernel
theorem dX9_clock_0 : decode cX9_clock 0 = .ok (.aload_n 0, 1) := by decide +kernel
theorem dX9_clock_1 : decode cX9_clock 1 = .ok (.getfield 18, 3) := by decide +kernel
theorem dX9_clock_4 : decode cX9_clock 4 = .ok (.iconst 1, 1) := by decide +kernel
theorem dX9_clock_5 : decode cX9_clock 5 = .ok (.iaload, 1) := by decide +kernel
theorem dX9_clock_6 : decode cX9_clock 6 = .ok (.aload_n 0, 1) := by decide +kernel
theorem dX9_clock_7 : decode cX9_clock 7 = .ok (.iload_n 1, 1) := by decide +kernel
theorem dX9_clock_8 : decode cX9_clock 8 = .ok (.iconst 1, 1) := by decide +kernel
theorem dX9_clock_9 : decode cX9_clock 9 = .ok (.invokevirtual 181, 3) := by decide +kernel
theorem dX9_clock_12 : decode cX9_clock 12 = .ok (.iadd, 1) := by decide +kernel
theorem dX9_clock_13 : decode cX9_clock 13 = .ok (.aload_n 0, 1) := by decide +kernel
theorem dX9_clock_14 : decode cX9_clock 14 = .ok (.getfield 18, 3) := by decide +kernel
theorem dX9_clock_17 : decode cX9_clock 17 = .ok (.iconst 1, 1) := by decide +kernel
theorem dX9_clock_18 : decode cX9_clock 18 = .ok (.iaload, 1) := by decide +kernel
theorem dX9_clock_19 : decode cX9_clock 19 = .ok (.aload_n 0, 1) := by decide +kernel
theorem dX9_clock_20 : decode cX9_clock 20 = .ok (.iload_n 1, 1) := by decide +kernel
theorem dX9_clock_21 : decode cX9_clock 21 = .ok (.iconst 2, 1) := by decide +kernel
theorem dX9_clock_22 : decode cX9_clock 22 = .ok (.invokevirtual 181, 3) := by decide +kernel
theorem dX9_clock_25 : decode cX9_clock 25 = .ok (.imul, 1) := by decide +kernel
theorem dX9_clock_26 : decode cX9_clock 26 = .ok (.sipush 1000, 3) := by decide +kernel
theorem dX9_clock_29 : decode cX9_clock 29 = .ok (.idiv, 1) := by decide +kernel
theorem dX9_clock_30 : decode cX9_clock 30 = .ok (.iadd, 1) := by decide +kernel
theorem dX9_clock_31 : decode cX9_clock 31 = .ok (.ireturn, 1) := by decide +kernel
theorem dX9_estimate_0 : decode cX9_estimate 0 = .ok (.aload_n 0, 1) := by decide +kernel
theorem dX9_estimate_1 : decode cX9_estimate 1 = .ok (.iload_n 1, 1) := by decide +kernel
theorem dX9_estimate_2 : decode cX9_estimate 2 = .ok (.invokevirtual 184, 3) := by decide +kernel
theorem dX9_estimate_5 : decode cX9_estimate 5 = .ok (.aload_n 0, 1) := by decide +kernel
theorem dX9_estimate_6 : decode cX9_estimate 6 = .ok (.iload_n 1, 1) := by decide +kernel
theorem dX9_estimate_7 : decode cX9_estimate 7 = .ok (.iconst 3, 1) := by decide +kernel
theorem dX9_estimate_8 : decode cX9_estimate 8 = .ok (.invokevirtual 181, 3) := by decide +kernel
theorem dX9_estimate_11 : decode cX9_estimate 11 = .ok (.iadd, 1) := by decide +kernel
theorem dX9_estimate_12 : decode cX9_estimate 12 = .ok (.ireturn, 1) := by decide +kernel
theorem dX9_longestDelay_0 : decode cX9_longestDelay 0 = .ok (.iconst 0, 1) := by decide +kernel
theorem dX9_longestDelay_1 : decode cX9_longestDelay 1 = .ok (.istore_n 1, 1) := by decide +kernel
theorem dX9_longestDelay_2 : decode cX9_longestDelay 2 = .ok (.iconst 0, 1) := by decide +kernel
theorem dX9_longestDelay_3 : decode cX9_longestDelay 3 = .ok (.istore_n 2, 1) := by decide +kernel
theorem dX9_longestDelay_4 : decode cX9_longestDelay 4 = .ok (.iload_n 2, 1) := by decide +kernel
theorem dX9_longestDelay_5 : decode cX9_longestDelay 5 = .ok (.bipush 64, 2) := by decide +kernel
theorem dX9_longestDelay_7 : decode cX9_longestDelay 7 = .ok (.if_icmp .ge 23, 3) := by decide +kernel
theorem dX9_longestDelay_10 : decode cX9_longestDelay 10 = .ok (.iload_n 1, 1) := by decide +kernel
theorem dX9_longestDelay_11 : decode cX9_longestDelay 11 = .ok (.aload_n 0, 1) := by decide +kernel
theorem dX9_longestDelay_12 : decode cX9_longestDelay 12 = .ok (.getfield 18, 3) := by decide +kernel
theorem dX9_longestDelay_15 : decode cX9_longestDelay 15 = .ok (.bipush 119, 2) := by decide +kernel
theorem dX9_longestDelay_17 : decode cX9_longestDelay 17 = .ok (.iload_n 2, 1) := by decide +kernel
theorem dX9_longestDelay_18 : decode cX9_longestDelay 18 = .ok (.iadd, 1) := by decide +kernel
theorem dX9_longestDelay_19 : decode cX9_longestDelay 19 = .ok (.iaload, 1) := by decide +kernel
theorem dX9_longestDelay_20 : decode cX9_longestDelay 20 = .ok (.invokestatic 186, 3) := by decide +kernel
theorem dX9_longestDelay_23 : decode cX9_longestDelay 23 = .ok (.istore_n 1, 1) := by decide +kernel
theorem dX9_longestDelay_24 : decode cX9_longestDelay 24 = .ok (.iinc 2 1, 3) := by decide +kernel
theorem dX9_longestDelay_27 : decode cX9_longestDelay 27 = .ok (.goto (-23), 3) := by decide +kernel
theorem dX9_longestDelay_30 : decode cX9_longestDelay 30 = .ok (.iload_n 1, 1) := by decide +kernel
theorem dX9_longestDelay_31 : decode cX9_longestDelay 31 = .ok (.ireturn, 1) := by decide +kernel
theorem dX9_playersUp_0 : decode cX9_playersUp 0 = .ok (.iconst 0, 1) := by decide +kernel
theorem dX9_playersUp_1 : decode cX9_playersUp 1 = .ok (.istore_n 1, 1) := by decide +kernel
theorem dX9_playersUp_2 : decode cX9_playersUp 2 = .ok (.iconst 0, 1) := by decide +kernel
theorem dX9_playersUp_3 : decode cX9_playersUp 3 = .ok (.istore_n 2, 1) := by decide +kernel
theorem dX9_playersUp_4 : decode cX9_playersUp 4 = .ok (.iload_n 2, 1) := by decide +kernel
theorem dX9_playersUp_5 : decode cX9_playersUp 5 = .ok (.aload_n 0, 1) := by decide +kernel
theorem dX9_playersUp_6 : decode cX9_playersUp 6 = .ok (.getfield 18, 3) := by decide +kernel
theorem dX9_playersUp_9 : decode cX9_playersUp 9 = .ok (.iconst 0, 1) := by decide +kernel
theorem dX9_playersUp_10 : decode cX9_playersUp 10 = .ok (.iaload, 1) := by decide +kernel
theorem dX9_playersUp_11 : decode cX9_playersUp 11 = .ok (.if_icmp .ge 18, 3) := by decide +kernel
theorem dX9_playersUp_14 : decode cX9_playersUp 14 = .ok (.iload_n 1, 1) := by decide +kernel
theorem dX9_playersUp_15 : decode cX9_playersUp 15 = .ok (.aload_n 0, 1) := by decide +kernel
theorem dX9_playersUp_16 : decode cX9_playersUp 16 = .ok (.iload_n 2, 1) := by decide +kernel
theorem dX9_playersUp_17 : decode cX9_playersUp 17 = .ok (.iconst 0, 1) := by decide +kernel
theorem dX9_playersUp_18 : decode cX9_playersUp 18 = .ok (.invokevirtual 181, 3) := by decide +kernel
theorem dX9_playersUp_21 : decode cX9_playersUp 21 = .ok (.iadd, 1) := by decide +kernel
theorem dX9_playersUp_22 : decode cX9_playersUp 22 = .ok (.istore_n 1, 1) := by decide +kernel
theorem dX9_playersUp_23 : decode cX9_playersUp 23 = .ok (.iinc 2 1, 3) := by decide +kernel
theorem dX9_playersUp_26 : decode cX9_playersUp 26 = .ok (.goto (-22), 3) := by decide +kernel
theorem dX9_playersUp_29 : decode cX9_playersUp 29 = .ok (.iload_n 1, 1) := by decide +kernel
theorem dX9_playersUp_30 : decode cX9_playersUp 30 = .ok (.ireturn, 1) := by decide +kernel
theorem dX9_margin_0 : decode cX9_margin 0 = .ok (.iconst 1, 1) := by decide +kernel
theorem dX9_margin_1 : decode cX9_margin 1 = .ok (.sipush 1000, 3) := by decide +kernel
theorem dX9_margin_4 : decode cX9_margin 4 = .ok (.aload_n 0, 1) := by decide +kernel
theorem dX9_margin_5 : decode cX9_margin 5 = .ok (.getfield 18, 3) := by decide +kernel
theorem dX9_margin_8 : decode cX9_margin 8 = .ok (.bipush 13, 2) := by decide +kernel
theorem dX9_margin_10 : decode cX9_margin 10 = .ok (.iaload, 1) := by decide +kernel
theorem dX9_margin_11 : decode cX9_margin 11 = .ok (.iconst 1, 1) := by decide +kernel
theorem dX9_margin_12 : decode cX9_margin 12 = .ok (.if_icmp .ne 11, 3) := by decide +kernel
theorem dX9_margin_23 : decode cX9_margin 23 = .ok (.iconst 2, 1) := by decide +kernel
theorem dX9_margin_24 : decode cX9_margin 24 = .ok (.aload_n 0, 1) := by decide +kernel
theorem dX9_margin_25 : decode cX9_margin 25 = .ok (.invokevirtual 197, 3) := by decide +kernel
theorem dX9_margin_28 : decode cX9_margin 28 = .ok (.imul, 1) := by decide +kernel
theorem dX9_margin_29 : decode cX9_margin 29 = .ok (.iconst 1, 1) := by decide +kernel
theorem dX9_margin_30 : decode cX9_margin 30 = .ok (.iadd, 1) := by decide +kernel
theorem dX9_margin_31 : decode cX9_margin 31 = .ok (.invokestatic 98, 3) := by decide +kernel
theorem dX9_margin_34 : decode cX9_margin 34 = .ok (.invokestatic 186, 3) := by decide +kernel
theorem dX9_margin_37 : decode cX9_margin 37 = .ok (.ireturn, 1) := by decide +kernel
theorem dX9_sendToOthers_0 : decode cX9_sendToOthers 0 = .ok (.iconst 0, 1) := by decide +kernel
theorem dX9_sendToOthers_1 : decode cX9_sendToOthers 1 = .ok (.istore 6, 2) := by decide +kernel
theorem dX9_sendToOthers_3 : decode cX9_sendToOthers 3 = .ok (.iload 6, 2) := by decide +kernel
theorem dX9_sendToOthers_5 : decode cX9_sendToOthers 5 = .ok (.aload_n 0, 1) := by decide +kernel
theorem dX9_sendToOthers_6 : decode cX9_sendToOthers 6 = .ok (.getfield 18, 3) := by decide +kernel
theorem dX9_sendToOthers_9 : decode cX9_sendToOthers 9 = .ok (.iconst 0, 1) := by decide +kernel
theorem dX9_sendToOthers_10 : decode cX9_sendToOthers 10 = .ok (.iaload, 1) := by decide +kernel
theorem dX9_sendToOthers_11 : decode cX9_sendToOthers 11 = .ok (.if_icmp .ge 29, 3) := by decide +kernel
theorem dX9_sendToOthers_14 : decode cX9_sendToOthers 14 = .ok (.iload 6, 2) := by decide +kernel
theorem dX9_sendToOthers_16 : decode cX9_sendToOthers 16 = .ok (.iload_n 2, 1) := by decide +kernel
theorem dX9_sendToOthers_17 : decode cX9_sendToOthers 17 = .ok (.if_icmp .eq 17, 3) := by decide +kernel
theorem dX9_sendToOthers_34 : decode cX9_sendToOthers 34 = .ok (.iinc 6 1, 3) := by decide +kernel
theorem dX9_sendToOthers_37 : decode cX9_sendToOthers 37 = .ok (.goto (-34), 3) := by decide +kernel
theorem dX9_sendToOthers_40 : decode cX9_sendToOthers 40 = .ok (.return_, 1) := by decide +kernel
theorem dX9_isOpen_0 : decode cX9_isOpen 0 = .ok (.aload_n 0, 1) := by decide +kernel
theorem dX9_isOpen_1 : decode cX9_isOpen 1 = .ok (.getfield 18, 3) := by decide +kernel
theorem dX9_isOpen_4 : decode cX9_isOpen 4 = .ok (.bipush 6, 2) := by decide +kernel
theorem dX9_isOpen_6 : decode cX9_isOpen 6 = .ok (.iaload, 1) := by decide +kernel
theorem dX9_isOpen_7 : decode cX9_isOpen 7 = .ok (.ifCond .le 17, 3) := by decide +kernel
theorem dX9_isOpen_10 : decode cX9_isOpen 10 = .ok (.aload_n 0, 1) := by decide +kernel
theorem dX9_isOpen_11 : decode cX9_isOpen 11 = .ok (.getfield 18, 3) := by decide +kernel
theorem dX9_isOpen_14 : decode cX9_isOpen 14 = .ok (.bipush 20, 2) := by decide +kernel
theorem dX9_isOpen_16 : decode cX9_isOpen 16 = .ok (.iaload, 1) := by decide +kernel
theorem dX9_isOpen_17 : decode cX9_isOpen 17 = .ok (.ifCond .ne 7, 3) := by decide +kernel
theorem dX9_isOpen_24 : decode cX9_isOpen 24 = .ok (.iconst 0, 1) := by decide +kernel
theorem dX9_isOpen_25 : decode cX9_isOpen 25 = .ok (.ireturn, 1) := by decide +kernel
theorem dX9_plan_0 : decode cX9_plan 0 = .ok (.aload_n 0, 1) := by decide +kernel
theorem dX9_plan_1 : decode cX9_plan 1 = .ok (.iload_n 1, 1) := by decide +kernel
theorem dX9_plan_2 : decode cX9_plan 2 = .ok (.iconst 5, 1) := by decide +kernel
theorem dX9_plan_3 : decode cX9_plan 3 = .ok (.invokevirtual 181, 3) := by decide +kernel
theorem dX9_plan_6 : decode cX9_plan 6 = .ok (.ifCond .eq 15, 3) := by decide +kernel
theorem dX9_plan_9 : decode cX9_plan 9 = .ok (.aload_n 0, 1) := by decide +kernel
theorem dX9_plan_10 : decode cX9_plan 10 = .ok (.iload_n 1, 1) := by decide +kernel
theorem dX9_plan_11 : decode cX9_plan 11 = .ok (.bipush 6, 2) := by decide +kernel
theorem dX9_plan_13 : decode cX9_plan 13 = .ok (.invokevirtual 181, 3) := by decide +kernel
theorem dX9_plan_16 : decode cX9_plan 16 = .ok (.iload_n 3, 1) := by decide +kernel
theorem dX9_plan_17 : decode cX9_plan 17 = .ok (.if_icmp .le 4, 3) := by decide +kernel
theorem dX9_plan_21 : decode cX9_plan 21 = .ok (.aload_n 0, 1) := by decide +kernel
theorem dX9_plan_22 : decode cX9_plan 22 = .ok (.iload_n 1, 1) := by decide +kernel
theorem dX9_plan_23 : decode cX9_plan 23 = .ok (.iconst 5, 1) := by decide +kernel
theorem dX9_plan_24 : decode cX9_plan 24 = .ok (.iload_n 2, 1) := by decide +kernel
theorem dX9_plan_25 : decode cX9_plan 25 = .ok (.invokevirtual 217, 3) := by decide +kernel
theorem dX9_plan_28 : decode cX9_plan 28 = .ok (.aload_n 0, 1) := by decide +kernel
theorem dX9_plan_29 : decode cX9_plan 29 = .ok (.iload_n 1, 1) := by decide +kernel
theorem dX9_plan_30 : decode cX9_plan 30 = .ok (.bipush 6, 2) := by decide +kernel
theorem dX9_plan_32 : decode cX9_plan 32 = .ok (.iload_n 3, 1) := by decide +kernel
theorem dX9_plan_33 : decode cX9_plan 33 = .ok (.invokevirtual 217, 3) := by decide +kernel
theorem dX9_plan_36 : decode cX9_plan 36 = .ok (.aload_n 0, 1) := by decide +kernel
theorem dX9_plan_37 : decode cX9_plan 37 = .ok (.iload_n 1, 1) := by decide +kernel
theorem dX9_plan_38 : decode cX9_plan 38 = .ok (.bipush 8, 2) := by decide +kernel
theorem dX9_plan_40 : decode cX9_plan 40 = .ok (.iload 4, 2) := by decide +kernel
theorem dX9_plan_42 : decode cX9_plan 42 = .ok (.invokevirtual 217, 3) := by decide +kernel
theorem dX9_plan_45 : decode cX9_plan 45 = .ok (.aload_n 0, 1) := by decide +kernel
theorem dX9_plan_46 : decode cX9_plan 46 = .ok (.iload_n 1, 1) := by decide +kernel
theorem dX9_plan_47 : decode cX9_plan 47 = .ok (.bipush 7, 2) := by decide +kernel
theorem dX9_plan_49 : decode cX9_plan 49 = .ok (.iload 5, 2) := by decide +kernel
theorem dX9_plan_51 : decode cX9_plan 51 = .ok (.invokevirtual 217, 3) := by decide +kernel
theorem dX9_plan_54 : decode cX9_plan 54 = .ok (.return_, 1) := by decide +kernel
theorem dX9_dropPlan_0 : decode cX9_dropPlan 0 = .ok (.aload_n 0, 1) := by decide +kernel
theorem dX9_dropPlan_1 : decode cX9_dropPlan 1 = .ok (.iload_n 1, 1) := by decide +kernel
theorem dX9_dropPlan_2 : decode cX9_dropPlan 2 = .ok (.iconst 5, 1) := by decide +kernel
theorem dX9_dropPlan_3 : decode cX9_dropPlan 3 = .ok (.iconst 0, 1) := by decide +kernel
theorem dX9_dropPlan_4 : decode cX9_dropPlan 4 = .ok (.invokevirtual 217, 3) := by decide +kernel
theorem dX9_dropPlan_7 : decode cX9_dropPlan 7 = .ok (.aload_n 0, 1) := by decide +kernel
theorem dX9_dropPlan_8 : decode cX9_dropPlan 8 = .ok (.iload_n 1, 1) := by decide +kernel
theorem dX9_dropPlan_9 : decode cX9_dropPlan 9 = .ok (.bipush 6, 2) := by decide +kernel
theorem dX9_dropPlan_11 : decode cX9_dropPlan 11 = .ok (.iconst (-1), 1) := by decide +kernel
theorem dX9_dropPlan_12 : decode cX9_dropPlan 12 = .ok (.invokevirtual 217, 3) := by decide +kernel
theorem dX9_dropPlan_15 : decode cX9_dropPlan 15 = .ok (.return_, 1) := by decide +kernel
theorem dX9_vote_0 : decode cX9_vote 0 = .ok (.aload_n 0, 1) := by decide +kernel
theorem dX9_vote_1 : decode cX9_vote 1 = .ok (.getfield 18, 3) := by decide +kernel
theorem dX9_vote_4 : decode cX9_vote 4 = .ok (.bipush 19, 2) := by decide +kernel
theorem dX9_vote_6 : decode cX9_vote 6 = .ok (.dup2, 1) := by decide +kernel
theorem dX9_vote_7 : decode cX9_vote 7 = .ok (.iaload, 1) := by decide +kernel
theorem dX9_vote_8 : decode cX9_vote 8 = .ok (.iconst 1, 1) := by decide +kernel
theorem dX9_vote_9 : decode cX9_vote 9 = .ok (.iadd, 1) := by decide +kernel
theorem dX9_vote_10 : decode cX9_vote 10 = .ok (.iastore, 1) := by decide +kernel
theorem dX9_vote_11 : decode cX9_vote 11 = .ok (.aload_n 0, 1) := by decide +kernel
theorem dX9_vote_12 : decode cX9_vote 12 = .ok (.getfield 18, 3) := by decide +kernel
theorem dX9_vote_15 : decode cX9_vote 15 = .ok (.bipush 19, 2) := by decide +kernel
theorem dX9_vote_17 : decode cX9_vote 17 = .ok (.iaload, 1) := by decide +kernel
theorem dX9_vote_18 : decode cX9_vote 18 = .ok (.aload_n 0, 1) := by decide +kernel
theorem dX9_vote_19 : decode cX9_vote 19 = .ok (.getfield 18, 3) := by decide +kernel
theorem dX9_vote_22 : decode cX9_vote 22 = .ok (.bipush 11, 2) := by decide +kernel
theorem dX9_vote_24 : decode cX9_vote 24 = .ok (.iaload, 1) := by decide +kernel
theorem dX9_vote_25 : decode cX9_vote 25 = .ok (.if_icmp .ge 4, 3) := by decide +kernel
theorem dX9_vote_29 : decode cX9_vote 29 = .ok (.aload_n 0, 1) := by decide +kernel
theorem dX9_vote_30 : decode cX9_vote 30 = .ok (.getfield 18, 3) := by decide +kernel
theorem dX9_vote_33 : decode cX9_vote 33 = .ok (.bipush 20, 2) := by decide +kernel
theorem dX9_vote_35 : decode cX9_vote 35 = .ok (.iconst 1, 1) := by decide +kernel
theorem dX9_vote_36 : decode cX9_vote 36 = .ok (.iastore, 1) := by decide +kernel
theorem dX9_vote_37 : decode cX9_vote 37 = .ok (.aload_n 0, 1) := by decide +kernel
theorem dX9_vote_38 : decode cX9_vote 38 = .ok (.getfield 18, 3) := by decide +kernel
theorem dX9_vote_41 : decode cX9_vote 41 = .ok (.bipush 7, 2) := by decide +kernel
theorem dX9_vote_43 : decode cX9_vote 43 = .ok (.dup2, 1) := by decide +kernel
theorem dX9_vote_44 : decode cX9_vote 44 = .ok (.iaload, 1) := by decide +kernel
theorem dX9_vote_45 : decode cX9_vote 45 = .ok (.iconst 1, 1) := by decide +kernel
theorem dX9_vote_46 : decode cX9_vote 46 = .ok (.iadd, 1) := by decide +kernel
theorem dX9_vote_47 : decode cX9_vote 47 = .ok (.iastore, 1) := by decide +kernel
theorem dX9_vote_48 : decode cX9_vote 48 = .ok (.aload_n 0, 1) := by decide +kernel
theorem dX9_vote_49 : decode cX9_vote 49 = .ok (.aload_n 0, 1) := by decide +kernel
theorem dX9_vote_50 : decode cX9_vote 50 = .ok (.getfield 18, 3) := by decide +kernel
theorem dX9_vote_53 : decode cX9_vote 53 = .ok (.bipush 18, 2) := by decide +kernel
theorem dX9_vote_55 : decode cX9_vote 55 = .ok (.iaload, 1) := by decide +kernel
theorem dX9_vote_56 : decode cX9_vote 56 = .ok (.iconst 2, 1) := by decide +kernel
theorem dX9_vote_57 : decode cX9_vote 57 = .ok (.aload_n 0, 1) := by decide +kernel
theorem dX9_vote_58 : decode cX9_vote 58 = .ok (.getfield 18, 3) := by decide +kernel
theorem dX9_vote_61 : decode cX9_vote 61 = .ok (.bipush 6, 2) := by decide +kernel
theorem dX9_vote_63 : decode cX9_vote 63 = .ok (.iaload, 1) := by decide +kernel
theorem dX9_vote_64 : decode cX9_vote 64 = .ok (.iconst 1, 1) := by decide +kernel
theorem dX9_vote_65 : decode cX9_vote 65 = .ok (.isub, 1) := by decide +kernel
theorem dX9_vote_66 : decode cX9_vote 66 = .ok (.aload_n 0, 1) := by decide +kernel
theorem dX9_vote_67 : decode cX9_vote 67 = .ok (.getfield 18, 3) := by decide +kernel
theorem dX9_vote_70 : decode cX9_vote 70 = .ok (.bipush 16, 2) := by decide +kernel
theorem dX9_vote_72 : decode cX9_vote 72 = .ok (.iaload, 1) := by decide +kernel
theorem dX9_vote_73 : decode cX9_vote 73 = .ok (.aload_n 0, 1) := by decide +kernel
theorem dX9_vote_74 : decode cX9_vote 74 = .ok (.getfield 18, 3) := by decide +kernel
theorem dX9_vote_77 : decode cX9_vote 77 = .ok (.bipush 15, 2) := by decide +kernel
theorem dX9_vote_79 : decode cX9_vote 79 = .ok (.iaload, 1) := by decide +kernel
theorem dX9_vote_80 : decode cX9_vote 80 = .ok (.invokevirtual 221, 3) := by decide +kernel
theorem dX9_vote_83 : decode cX9_vote 83 = .ok (.aload_n 0, 1) := by decide +kernel
theorem dX9_vote_84 : decode cX9_vote 84 = .ok (.iconst 4, 1) := by decide +kernel
theorem dX9_vote_85 : decode cX9_vote 85 = .ok (.aload_n 0, 1) := by decide +kernel
theorem dX9_vote_86 : decode cX9_vote 86 = .ok (.getfield 18, 3) := by decide +kernel
theorem dX9_vote_89 : decode cX9_vote 89 = .ok (.bipush 18, 2) := by decide +kernel
theorem dX9_vote_91 : decode cX9_vote 91 = .ok (.iaload, 1) := by decide +kernel
theorem dX9_vote_92 : decode cX9_vote 92 = .ok (.aload_n 0, 1) := by decide +kernel
theorem dX9_vote_93 : decode cX9_vote 93 = .ok (.getfield 18, 3) := by decide +kernel
theorem dX9_vote_96 : decode cX9_vote 96 = .ok (.bipush 6, 2) := by decide +kernel
theorem dX9_vote_98 : decode cX9_vote 98 = .ok (.iaload, 1) := by decide +kernel
theorem dX9_vote_99 : decode cX9_vote 99 = .ok (.iconst 1, 1) := by decide +kernel
theorem dX9_vote_100 : decode cX9_vote 100 = .ok (.isub, 1) := by decide +kernel
theorem dX9_vote_101 : decode cX9_vote 101 = .ok (.aload_n 0, 1) := by decide +kernel
theorem dX9_vote_102 : decode cX9_vote 102 = .ok (.getfield 18, 3) := by decide +kernel
theorem dX9_vote_105 : decode cX9_vote 105 = .ok (.bipush 16, 2) := by decide +kernel
theorem dX9_vote_107 : decode cX9_vote 107 = .ok (.iaload, 1) := by decide +kernel
theorem dX9_vote_108 : decode cX9_vote 108 = .ok (.aload_n 0, 1) := by decide +kernel
theorem dX9_vote_109 : decode cX9_vote 109 = .ok (.getfield 18, 3) := by decide +kernel
theorem dX9_vote_112 : decode cX9_vote 112 = .ok (.bipush 15, 2) := by decide +kernel
theorem dX9_vote_114 : decode cX9_vote 114 = .ok (.iaload, 1) := by decide +kernel
theorem dX9_vote_115 : decode cX9_vote 115 = .ok (.invokevirtual 225, 3) := by decide +kernel
theorem dX9_vote_118 : decode cX9_vote 118 = .ok (.return_, 1) := by decide +kernel
theorem dX9_handleAll_0 : decode cX9_handleAll 0 = .ok (.aload_n 0, 1) := by decide +kernel
theorem dX9_handleAll_1 : decode cX9_handleAll 1 = .ok (.getfield 18, 3) := by decide +kernel
theorem dX9_handleAll_4 : decode cX9_handleAll 4 = .ok (.iconst 3, 1) := by decide +kernel
theorem dX9_handleAll_5 : decode cX9_handleAll 5 = .ok (.iaload, 1) := by decide +kernel
theorem dX9_handleAll_6 : decode cX9_handleAll 6 = .ok (.istore_n 1, 1) := by decide +kernel
theorem dX9_handleAll_7 : decode cX9_handleAll 7 = .ok (.iconst 0, 1) := by decide +kernel
theorem dX9_handleAll_8 : decode cX9_handleAll 8 = .ok (.istore_n 2, 1) := by decide +kernel
theorem dX9_handleAll_9 : decode cX9_handleAll 9 = .ok (.iload_n 2, 1) := by decide +kernel
theorem dX9_handleAll_10 : decode cX9_handleAll 10 = .ok (.iload_n 1, 1) := by decide +kernel
theorem dX9_handleAll_11 : decode cX9_handleAll 11 = .ok (.if_icmp .ge 91, 3) := by decide +kernel
theorem dX9_handleAll_102 : decode cX9_handleAll 102 = .ok (.iconst 0, 1) := by decide +kernel
theorem dX9_handleAll_103 : decode cX9_handleAll 103 = .ok (.istore_n 2, 1) := by decide +kernel
theorem dX9_handleAll_104 : decode cX9_handleAll 104 = .ok (.iconst 0, 1) := by decide +kernel
theorem dX9_handleAll_105 : decode cX9_handleAll 105 = .ok (.istore_n 3, 1) := by decide +kernel
theorem dX9_handleAll_106 : decode cX9_handleAll 106 = .ok (.iload_n 3, 1) := by decide +kernel
theorem dX9_handleAll_107 : decode cX9_handleAll 107 = .ok (.aload_n 0, 1) := by decide +kernel
theorem dX9_handleAll_108 : decode cX9_handleAll 108 = .ok (.getfield 18, 3) := by decide +kernel
theorem dX9_handleAll_111 : decode cX9_handleAll 111 = .ok (.iconst 3, 1) := by decide +kernel
theorem dX9_handleAll_112 : decode cX9_handleAll 112 = .ok (.iaload, 1) := by decide +kernel
theorem dX9_handleAll_113 : decode cX9_handleAll 113 = .ok (.if_icmp .ge 87, 3) := by decide +kernel
theorem dX9_handleAll_200 : decode cX9_handleAll 200 = .ok (.aload_n 0, 1) := by decide +kernel
theorem dX9_handleAll_201 : decode cX9_handleAll 201 = .ok (.getfield 18, 3) := by decide +kernel
theorem dX9_handleAll_204 : decode cX9_handleAll 204 = .ok (.iconst 3, 1) := by decide +kernel
theorem dX9_handleAll_205 : decode cX9_handleAll 205 = .ok (.iload_n 2, 1) := by decide +kernel
theorem dX9_handleAll_206 : decode cX9_handleAll 206 = .ok (.iastore, 1) := by decide +kernel
theorem dX9_handleAll_207 : decode cX9_handleAll 207 = .ok (.return_, 1) := by decide +kernel
theorem dX9_change_0 : decode cX9_change 0 = .ok (.aload_n 0, 1) := by decide +kernel
theorem dX9_change_1 : decode cX9_change 1 = .ok (.iload_n 1, 1) := by decide +kernel
theorem dX9_change_2 : decode cX9_change 2 = .ok (.invokevirtual 244, 3) := by decide +kernel
theorem dX9_change_5 : decode cX9_change 5 = .ok (.aload_n 0, 1) := by decide +kernel
theorem dX9_change_6 : decode cX9_change 6 = .ok (.iload_n 1, 1) := by decide +kernel
theorem dX9_change_7 : decode cX9_change 7 = .ok (.bipush 8, 2) := by decide +kernel
theorem dX9_change_9 : decode cX9_change 9 = .ok (.invokevirtual 181, 3) := by decide +kernel
theorem dX9_change_12 : decode cX9_change 12 = .ok (.if_icmp .le 7, 3) := by decide +kernel
theorem dX9_change_19 : decode cX9_change 19 = .ok (.iconst 0, 1) := by decide +kernel
theorem dX9_change_20 : decode cX9_change 20 = .ok (.istore_n 2, 1) := by decide +kernel
theorem dX9_change_21 : decode cX9_change 21 = .ok (.aload_n 0, 1) := by decide +kernel
theorem dX9_change_22 : decode cX9_change 22 = .ok (.iload_n 1, 1) := by decide +kernel
theorem dX9_change_23 : decode cX9_change 23 = .ok (.bipush 6, 2) := by decide +kernel
theorem dX9_change_25 : decode cX9_change 25 = .ok (.invokevirtual 181, 3) := by decide +kernel
theorem dX9_change_28 : decode cX9_change 28 = .ok (.aload_n 0, 1) := by decide +kernel
theorem dX9_change_29 : decode cX9_change 29 = .ok (.getfield 18, 3) := by decide +kernel
theorem dX9_change_32 : decode cX9_change 32 = .ok (.bipush 6, 2) := by decide +kernel
theorem dX9_change_34 : decode cX9_change 34 = .ok (.iaload, 1) := by decide +kernel
theorem dX9_change_35 : decode cX9_change 35 = .ok (.iconst 1, 1) := by decide +kernel
theorem dX9_change_36 : decode cX9_change 36 = .ok (.isub, 1) := by decide +kernel
theorem dX9_change_37 : decode cX9_change 37 = .ok (.if_icmp .ne 50, 3) := by decide +kernel
theorem dX9_change_40 : decode cX9_change 40 = .ok (.aload_n 0, 1) := by decide +kernel
theorem dX9_change_41 : decode cX9_change 41 = .ok (.getfield 18, 3) := by decide +kernel
theorem dX9_change_44 : decode cX9_change 44 = .ok (.bipush 21, 2) := by decide +kernel
theorem dX9_change_46 : decode cX9_change 46 = .ok (.aload_n 0, 1) := by decide +kernel
theorem dX9_change_47 : decode cX9_change 47 = .ok (.getfield 18, 3) := by decide +kernel
theorem dX9_change_50 : decode cX9_change 50 = .ok (.bipush 21, 2) := by decide +kernel
theorem dX9_change_52 : decode cX9_change 52 = .ok (.iaload, 1) := by decide +kernel
theorem dX9_change_53 : decode cX9_change 53 = .ok (.iconst (-1), 1) := by decide +kernel
theorem dX9_change_54 : decode cX9_change 54 = .ok (.if_icmp .ne 12, 3) := by decide +kernel
theorem dX9_change_57 : decode cX9_change 57 = .ok (.aload_n 0, 1) := by decide +kernel
theorem dX9_change_58 : decode cX9_change 58 = .ok (.getfield 18, 3) := by decide +kernel
theorem dX9_change_61 : decode cX9_change 61 = .ok (.iconst 1, 1) := by decide +kernel
theorem dX9_change_62 : decode cX9_change 62 = .ok (.iaload, 1) := by decide +kernel
theorem dX9_change_63 : decode cX9_change 63 = .ok (.goto 10, 3) := by decide +kernel
theorem dX9_change_73 : decode cX9_change 73 = .ok (.iastore, 1) := by decide +kernel
theorem dX9_change_74 : decode cX9_change 74 = .ok (.aload_n 0, 1) := by decide +kernel
theorem dX9_change_75 : decode cX9_change 75 = .ok (.getfield 18, 3) := by decide +kernel
theorem dX9_change_78 : decode cX9_change 78 = .ok (.bipush 22, 2) := by decide +kernel
theorem dX9_change_80 : decode cX9_change 80 = .ok (.aload_n 0, 1) := by decide +kernel
theorem dX9_change_81 : decode cX9_change 81 = .ok (.getfield 18, 3) := by decide +kernel
theorem dX9_change_84 : decode cX9_change 84 = .ok (.iconst 1, 1) := by decide +kernel
theorem dX9_change_85 : decode cX9_change 85 = .ok (.iaload, 1) := by decide +kernel
theorem dX9_change_86 : decode cX9_change 86 = .ok (.iastore, 1) := by decide +kernel
theorem dX9_change_87 : decode cX9_change 87 = .ok (.aload_n 0, 1) := by decide +kernel
theorem dX9_change_88 : decode cX9_change 88 = .ok (.iload_n 1, 1) := by decide +kernel
theorem dX9_change_89 : decode cX9_change 89 = .ok (.iconst 4, 1) := by decide +kernel
theorem dX9_change_90 : decode cX9_change 90 = .ok (.aload_n 0, 1) := by decide +kernel
theorem dX9_change_91 : decode cX9_change 91 = .ok (.iload_n 1, 1) := by decide +kernel
theorem dX9_change_92 : decode cX9_change 92 = .ok (.bipush 7, 2) := by decide +kernel
theorem dX9_change_94 : decode cX9_change 94 = .ok (.invokevirtual 181, 3) := by decide +kernel
theorem dX9_change_97 : decode cX9_change 97 = .ok (.invokevirtual 217, 3) := by decide +kernel
theorem dX9_change_100 : decode cX9_change 100 = .ok (.aload_n 0, 1) := by decide +kernel
theorem dX9_change_101 : decode cX9_change 101 = .ok (.iload_n 1, 1) := by decide +kernel
theorem dX9_change_102 : decode cX9_change 102 = .ok (.bipush 9, 2) := by decide +kernel
theorem dX9_change_104 : decode cX9_change 104 = .ok (.aload_n 0, 1) := by decide +kernel
theorem dX9_change_105 : decode cX9_change 105 = .ok (.iload_n 1, 1) := by decide +kernel
theorem dX9_change_106 : decode cX9_change 106 = .ok (.bipush 9, 2) := by decide +kernel
theorem dX9_change_108 : decode cX9_change 108 = .ok (.invokevirtual 181, 3) := by decide +kernel
theorem dX9_change_111 : decode cX9_change 111 = .ok (.iconst 1, 1) := by decide +kernel
theorem dX9_change_112 : decode cX9_change 112 = .ok (.iadd, 1) := by decide +kernel
theorem dX9_change_113 : decode cX9_change 113 = .ok (.invokevirtual 217, 3) := by decide +kernel
theorem dX9_change_116 : decode cX9_change 116 = .ok (.aload_n 0, 1) := by decide +kernel
theorem dX9_change_117 : decode cX9_change 117 = .ok (.iload_n 1, 1) := by decide +kernel
theorem dX9_change_118 : decode cX9_change 118 = .ok (.bipush 10, 2) := by decide +kernel
theorem dX9_change_120 : decode cX9_change 120 = .ok (.aload_n 0, 1) := by decide +kernel
theorem dX9_change_121 : decode cX9_change 121 = .ok (.iload_n 1, 1) := by decide +kernel
theorem dX9_change_122 : decode cX9_change 122 = .ok (.bipush 10, 2) := by decide +kernel
theorem dX9_change_124 : decode cX9_change 124 = .ok (.invokevirtual 181, 3) := by decide +kernel
theorem dX9_change_127 : decode cX9_change 127 = .ok (.iload_n 2, 1) := by decide +kernel
theorem dX9_change_128 : decode cX9_change 128 = .ok (.iadd, 1) := by decide +kernel
theorem dX9_change_129 : decode cX9_change 129 = .ok (.invokevirtual 217, 3) := by decide +kernel
theorem dX9_change_132 : decode cX9_change 132 = .ok (.aload_n 0, 1) := by decide +kernel
theorem dX9_change_133 : decode cX9_change 133 = .ok (.iload_n 1, 1) := by decide +kernel
theorem dX9_change_134 : decode cX9_change 134 = .ok (.bipush 11, 2) := by decide +kernel
theorem dX9_change_136 : decode cX9_change 136 = .ok (.aload_n 0, 1) := by decide +kernel
theorem dX9_change_137 : decode cX9_change 137 = .ok (.getfield 18, 3) := by decide +kernel
theorem dX9_change_140 : decode cX9_change 140 = .ok (.iconst 1, 1) := by decide +kernel
theorem dX9_change_141 : decode cX9_change 141 = .ok (.iaload, 1) := by decide +kernel
theorem dX9_change_142 : decode cX9_change 142 = .ok (.invokevirtual 217, 3) := by decide +kernel
theorem dX9_change_145 : decode cX9_change 145 = .ok (.aload_n 0, 1) := by decide +kernel
theorem dX9_change_146 : decode cX9_change 146 = .ok (.iload_n 1, 1) := by decide +kernel
theorem dX9_change_147 : decode cX9_change 147 = .ok (.invokevirtual 237, 3) := by decide +kernel
theorem dX9_change_150 : decode cX9_change 150 = .ok (.aload_n 0, 1) := by decide +kernel
theorem dX9_change_151 : decode cX9_change 151 = .ok (.getfield 18, 3) := by decide +kernel
theorem dX9_change_154 : decode cX9_change 154 = .ok (.bipush 9, 2) := by decide +kernel
theorem dX9_change_156 : decode cX9_change 156 = .ok (.dup2, 1) := by decide +kernel
theorem dX9_change_157 : decode cX9_change 157 = .ok (.iaload, 1) := by decide +kernel
theorem dX9_change_158 : decode cX9_change 158 = .ok (.iconst 1, 1) := by decide +kernel
theorem dX9_change_159 : decode cX9_change 159 = .ok (.iadd, 1) := by decide +kernel
theorem dX9_change_160 : decode cX9_change 160 = .ok (.iastore, 1) := by decide +kernel
theorem dX9_change_161 : decode cX9_change 161 = .ok (.aload_n 0, 1) := by decide +kernel
theorem dX9_change_162 : decode cX9_change 162 = .ok (.getfield 18, 3) := by decide +kernel
theorem dX9_change_165 : decode cX9_change 165 = .ok (.bipush 10, 2) := by decide +kernel
theorem dX9_change_167 : decode cX9_change 167 = .ok (.dup2, 1) := by decide +kernel
theorem dX9_change_168 : decode cX9_change 168 = .ok (.iaload, 1) := by decide +kernel
theorem dX9_change_169 : decode cX9_change 169 = .ok (.iload_n 2, 1) := by decide +kernel
theorem dX9_change_170 : decode cX9_change 170 = .ok (.iadd, 1) := by decide +kernel
theorem dX9_change_171 : decode cX9_change 171 = .ok (.iastore, 1) := by decide +kernel
theorem dX9_change_172 : decode cX9_change 172 = .ok (.return_, 1) := by decide +kernel
theorem dX9_tick_0 : decode cX9_tick 0 = .ok (.aload_n 0, 1) := by decide +kernel
theorem dX9_tick_1 : decode cX9_tick 1 = .ok (.getfield 18, 3) := by decide +kernel
theorem dX9_tick_4 : decode cX9_tick 4 = .ok (.iconst 1, 1) := by decide +kernel
theorem dX9_tick_5 : decode cX9_tick 5 = .ok (.dup2, 1) := by decide +kernel
theorem dX9_tick_6 : decode cX9_tick 6 = .ok (.iaload, 1) := by decide +kernel
theorem dX9_tick_7 : decode cX9_tick 7 = .ok (.iconst 1, 1) := by decide +kernel
theorem dX9_tick_8 : decode cX9_tick 8 = .ok (.iadd, 1) := by decide +kernel
theorem dX9_tick_9 : decode cX9_tick 9 = .ok (.iastore, 1) := by decide +kernel
theorem dX9_tick_10 : decode cX9_tick 10 = .ok (.aload_n 0, 1) := by decide +kernel
theorem dX9_tick_11 : decode cX9_tick 11 = .ok (.invokevirtual 247, 3) := by decide +kernel
theorem dX9_tick_14 : decode cX9_tick 14 = .ok (.aload_n 0, 1) := by decide +kernel
theorem dX9_tick_15 : decode cX9_tick 15 = .ok (.invokevirtual 231, 3) := by decide +kernel
theorem dX9_tick_18 : decode cX9_tick 18 = .ok (.ifCond .eq 23, 3) := by decide +kernel
theorem dX9_tick_41 : decode cX9_tick 41 = .ok (.iconst 0, 1) := by decide +kernel
theorem dX9_tick_42 : decode cX9_tick 42 = .ok (.istore_n 1, 1) := by decide +kernel
theorem dX9_tick_43 : decode cX9_tick 43 = .ok (.iload_n 1, 1) := by decide +kernel
theorem dX9_tick_44 : decode cX9_tick 44 = .ok (.aload_n 0, 1) := by decide +kernel
theorem dX9_tick_45 : decode cX9_tick 45 = .ok (.getfield 18, 3) := by decide +kernel
theorem dX9_tick_48 : decode cX9_tick 48 = .ok (.iconst 0, 1) := by decide +kernel
theorem dX9_tick_49 : decode cX9_tick 49 = .ok (.iaload, 1) := by decide +kernel
theorem dX9_tick_50 : decode cX9_tick 50 = .ok (.if_icmp .ge 47, 3) := by decide +kernel
theorem dX9_tick_53 : decode cX9_tick 53 = .ok (.aload_n 0, 1) := by decide +kernel
theorem dX9_tick_54 : decode cX9_tick 54 = .ok (.iload_n 1, 1) := by decide +kernel
theorem dX9_tick_55 : decode cX9_tick 55 = .ok (.invokevirtual 228, 3) := by decide +kernel
theorem dX9_tick_58 : decode cX9_tick 58 = .ok (.ifCond .eq 33, 3) := by decide +kernel
theorem dX9_tick_61 : decode cX9_tick 61 = .ok (.aload_n 0, 1) := by decide +kernel
theorem dX9_tick_62 : decode cX9_tick 62 = .ok (.iload_n 1, 1) := by decide +kernel
theorem dX9_tick_63 : decode cX9_tick 63 = .ok (.iconst 5, 1) := by decide +kernel
theorem dX9_tick_64 : decode cX9_tick 64 = .ok (.invokevirtual 181, 3) := by decide +kernel
theorem dX9_tick_67 : decode cX9_tick 67 = .ok (.iconst 2, 1) := by decide +kernel
theorem dX9_tick_68 : decode cX9_tick 68 = .ok (.if_icmp .ne 23, 3) := by decide +kernel
theorem dX9_tick_71 : decode cX9_tick 71 = .ok (.aload_n 0, 1) := by decide +kernel
theorem dX9_tick_72 : decode cX9_tick 72 = .ok (.iload_n 1, 1) := by decide +kernel
theorem dX9_tick_73 : decode cX9_tick 73 = .ok (.invokevirtual 244, 3) := by decide +kernel
theorem dX9_tick_76 : decode cX9_tick 76 = .ok (.aload_n 0, 1) := by decide +kernel
theorem dX9_tick_77 : decode cX9_tick 77 = .ok (.iload_n 1, 1) := by decide +kernel
theorem dX9_tick_78 : decode cX9_tick 78 = .ok (.bipush 8, 2) := by decide +kernel
theorem dX9_tick_80 : decode cX9_tick 80 = .ok (.invokevirtual 181, 3) := by decide +kernel
theorem dX9_tick_83 : decode cX9_tick 83 = .ok (.if_icmp .lt 8, 3) := by decide +kernel
theorem dX9_tick_86 : decode cX9_tick 86 = .ok (.aload_n 0, 1) := by decide +kernel
theorem dX9_tick_87 : decode cX9_tick 87 = .ok (.iload_n 1, 1) := by decide +kernel
theorem dX9_tick_88 : decode cX9_tick 88 = .ok (.invokevirtual 253, 3) := by decide +kernel
theorem dX9_tick_91 : decode cX9_tick 91 = .ok (.iinc 1 1, 3) := by decide +kernel
theorem dX9_tick_94 : decode cX9_tick 94 = .ok (.goto (-51), 3) := by decide +kernel
theorem dX9_tick_97 : decode cX9_tick 97 = .ok (.return_, 1) := by decide +kernel
theorem dX9_proposeNow_0 : decode cX9_proposeNow 0 = .ok (.aload_n 0, 1) := by decide +kernel
theorem dX9_proposeNow_1 : decode cX9_proposeNow 1 = .ok (.getfield 18, 3) := by decide +kernel
theorem dX9_proposeNow_4 : decode cX9_proposeNow 4 = .ok (.iconst 2, 1) := by decide +kernel
theorem dX9_proposeNow_5 : decode cX9_proposeNow 5 = .ok (.iaload, 1) := by decide +kernel
theorem dX9_proposeNow_6 : decode cX9_proposeNow 6 = .ok (.istore_n 3, 1) := by decide +kernel
theorem dX9_proposeNow_7 : decode cX9_proposeNow 7 = .ok (.aload_n 0, 1) := by decide +kernel
theorem dX9_proposeNow_8 : decode cX9_proposeNow 8 = .ok (.getfield 18, 3) := by decide +kernel
theorem dX9_proposeNow_11 : decode cX9_proposeNow 11 = .ok (.bipush 6, 2) := by decide +kernel
theorem dX9_proposeNow_13 : decode cX9_proposeNow 13 = .ok (.iaload, 1) := by decide +kernel
theorem dX9_proposeNow_14 : decode cX9_proposeNow 14 = .ok (.istore 4, 2) := by decide +kernel
theorem dX9_proposeNow_16 : decode cX9_proposeNow 16 = .ok (.aload_n 0, 1) := by decide +kernel
theorem dX9_proposeNow_17 : decode cX9_proposeNow 17 = .ok (.getfield 18, 3) := by decide +kernel
theorem dX9_proposeNow_20 : decode cX9_proposeNow 20 = .ok (.bipush 6, 2) := by decide +kernel
theorem dX9_proposeNow_22 : decode cX9_proposeNow 22 = .ok (.dup2, 1) := by decide +kernel
theorem dX9_proposeNow_23 : decode cX9_proposeNow 23 = .ok (.iaload, 1) := by decide +kernel
theorem dX9_proposeNow_24 : decode cX9_proposeNow 24 = .ok (.iconst 1, 1) := by decide +kernel
theorem dX9_proposeNow_25 : decode cX9_proposeNow 25 = .ok (.iadd, 1) := by decide +kernel
theorem dX9_proposeNow_26 : decode cX9_proposeNow 26 = .ok (.iastore, 1) := by decide +kernel
theorem dX9_proposeNow_27 : decode cX9_proposeNow 27 = .ok (.aload_n 0, 1) := by decide +kernel
theorem dX9_proposeNow_28 : decode cX9_proposeNow 28 = .ok (.getfield 18, 3) := by decide +kernel
theorem dX9_proposeNow_31 : decode cX9_proposeNow 31 = .ok (.bipush 15, 2) := by decide +kernel
theorem dX9_proposeNow_33 : decode cX9_proposeNow 33 = .ok (.iload_n 1, 1) := by decide +kernel
theorem dX9_proposeNow_34 : decode cX9_proposeNow 34 = .ok (.iastore, 1) := by decide +kernel
theorem dX9_proposeNow_35 : decode cX9_proposeNow 35 = .ok (.aload_n 0, 1) := by decide +kernel
theorem dX9_proposeNow_36 : decode cX9_proposeNow 36 = .ok (.getfield 18, 3) := by decide +kernel
theorem dX9_proposeNow_39 : decode cX9_proposeNow 39 = .ok (.bipush 16, 2) := by decide +kernel
theorem dX9_proposeNow_41 : decode cX9_proposeNow 41 = .ok (.aload_n 0, 1) := by decide +kernel
theorem dX9_proposeNow_42 : decode cX9_proposeNow 42 = .ok (.iload_n 3, 1) := by decide +kernel
theorem dX9_proposeNow_43 : decode cX9_proposeNow 43 = .ok (.invokevirtual 184, 3) := by decide +kernel
theorem dX9_proposeNow_46 : decode cX9_proposeNow 46 = .ok (.iload_n 2, 1) := by decide +kernel
theorem dX9_proposeNow_47 : decode cX9_proposeNow 47 = .ok (.iadd, 1) := by decide +kernel
theorem dX9_proposeNow_48 : decode cX9_proposeNow 48 = .ok (.iastore, 1) := by decide +kernel
theorem dX9_proposeNow_49 : decode cX9_proposeNow 49 = .ok (.aload_n 0, 1) := by decide +kernel
theorem dX9_proposeNow_50 : decode cX9_proposeNow 50 = .ok (.getfield 18, 3) := by decide +kernel
theorem dX9_proposeNow_53 : decode cX9_proposeNow 53 = .ok (.bipush 17, 2) := by decide +kernel
theorem dX9_proposeNow_55 : decode cX9_proposeNow 55 = .ok (.aload_n 0, 1) := by decide +kernel
theorem dX9_proposeNow_56 : decode cX9_proposeNow 56 = .ok (.getfield 18, 3) := by decide +kernel
theorem dX9_proposeNow_59 : decode cX9_proposeNow 59 = .ok (.iconst 1, 1) := by decide +kernel
theorem dX9_proposeNow_60 : decode cX9_proposeNow 60 = .ok (.iaload, 1) := by decide +kernel
theorem dX9_proposeNow_61 : decode cX9_proposeNow 61 = .ok (.aload_n 0, 1) := by decide +kernel
theorem dX9_proposeNow_62 : decode cX9_proposeNow 62 = .ok (.getfield 18, 3) := by decide +kernel
theorem dX9_proposeNow_65 : decode cX9_proposeNow 65 = .ok (.bipush 12, 2) := by decide +kernel
theorem dX9_proposeNow_67 : decode cX9_proposeNow 67 = .ok (.iaload, 1) := by decide +kernel
theorem dX9_proposeNow_68 : decode cX9_proposeNow 68 = .ok (.iadd, 1) := by decide +kernel
theorem dX9_proposeNow_69 : decode cX9_proposeNow 69 = .ok (.iastore, 1) := by decide +kernel
theorem dX9_proposeNow_70 : decode cX9_proposeNow 70 = .ok (.aload_n 0, 1) := by decide +kernel
theorem dX9_proposeNow_71 : decode cX9_proposeNow 71 = .ok (.getfield 18, 3) := by decide +kernel
theorem dX9_proposeNow_74 : decode cX9_proposeNow 74 = .ok (.bipush 18, 2) := by decide +kernel
theorem dX9_proposeNow_76 : decode cX9_proposeNow 76 = .ok (.iload_n 3, 1) := by decide +kernel
theorem dX9_proposeNow_77 : decode cX9_proposeNow 77 = .ok (.iastore, 1) := by decide +kernel
theorem dX9_proposeNow_78 : decode cX9_proposeNow 78 = .ok (.aload_n 0, 1) := by decide +kernel
theorem dX9_proposeNow_79 : decode cX9_proposeNow 79 = .ok (.getfield 18, 3) := by decide +kernel
theorem dX9_proposeNow_82 : decode cX9_proposeNow 82 = .ok (.bipush 19, 2) := by decide +kernel
theorem dX9_proposeNow_84 : decode cX9_proposeNow 84 = .ok (.iconst 0, 1) := by decide +kernel
theorem dX9_proposeNow_85 : decode cX9_proposeNow 85 = .ok (.iastore, 1) := by decide +kernel
theorem dX9_proposeNow_86 : decode cX9_proposeNow 86 = .ok (.aload_n 0, 1) := by decide +kernel
theorem dX9_proposeNow_87 : decode cX9_proposeNow 87 = .ok (.getfield 18, 3) := by decide +kernel
theorem dX9_proposeNow_90 : decode cX9_proposeNow 90 = .ok (.bipush 20, 2) := by decide +kernel
theorem dX9_proposeNow_92 : decode cX9_proposeNow 92 = .ok (.iconst 0, 1) := by decide +kernel
theorem dX9_proposeNow_93 : decode cX9_proposeNow 93 = .ok (.iastore, 1) := by decide +kernel
theorem dX9_proposeNow_94 : decode cX9_proposeNow 94 = .ok (.aload_n 0, 1) := by decide +kernel
theorem dX9_proposeNow_95 : decode cX9_proposeNow 95 = .ok (.getfield 18, 3) := by decide +kernel
theorem dX9_proposeNow_98 : decode cX9_proposeNow 98 = .ok (.bipush 21, 2) := by decide +kernel
theorem dX9_proposeNow_100 : decode cX9_proposeNow 100 = .ok (.iconst (-1), 1) := by decide +kernel
theorem dX9_proposeNow_101 : decode cX9_proposeNow 101 = .ok (.iastore, 1) := by decide +kernel
theorem dX9_proposeNow_102 : decode cX9_proposeNow 102 = .ok (.aload_n 0, 1) := by decide +kernel
theorem dX9_proposeNow_103 : decode cX9_proposeNow 103 = .ok (.getfield 18, 3) := by decide +kernel
theorem dX9_proposeNow_106 : decode cX9_proposeNow 106 = .ok (.bipush 22, 2) := by decide +kernel
theorem dX9_proposeNow_108 : decode cX9_proposeNow 108 = .ok (.iconst (-1), 1) := by decide +kernel
theorem dX9_proposeNow_109 : decode cX9_proposeNow 109 = .ok (.iastore, 1) := by decide +kernel
theorem dX9_proposeNow_110 : decode cX9_proposeNow 110 = .ok (.aload_n 0, 1) := by decide +kernel
theorem dX9_proposeNow_111 : decode cX9_proposeNow 111 = .ok (.iload_n 3, 1) := by decide +kernel
theorem dX9_proposeNow_112 : decode cX9_proposeNow 112 = .ok (.iconst 1, 1) := by decide +kernel
theorem dX9_proposeNow_113 : decode cX9_proposeNow 113 = .ok (.iload 4, 2) := by decide +kernel
theorem dX9_proposeNow_115 : decode cX9_proposeNow 115 = .ok (.aload_n 0, 1) := by decide +kernel
theorem dX9_proposeNow_116 : decode cX9_proposeNow 116 = .ok (.getfield 18, 3) := by decide +kernel
theorem dX9_proposeNow_119 : decode cX9_proposeNow 119 = .ok (.bipush 16, 2) := by decide +kernel
theorem dX9_proposeNow_121 : decode cX9_proposeNow 121 = .ok (.iaload, 1) := by decide +kernel
theorem dX9_proposeNow_122 : decode cX9_proposeNow 122 = .ok (.iload_n 1, 1) := by decide +kernel
theorem dX9_proposeNow_123 : decode cX9_proposeNow 123 = .ok (.invokevirtual 221, 3) := by decide +kernel
theorem dX9_proposeNow_126 : decode cX9_proposeNow 126 = .ok (.aload_n 0, 1) := by decide +kernel
theorem dX9_proposeNow_127 : decode cX9_proposeNow 127 = .ok (.iconst 2, 1) := by decide +kernel
theorem dX9_proposeNow_128 : decode cX9_proposeNow 128 = .ok (.iload_n 3, 1) := by decide +kernel
theorem dX9_proposeNow_129 : decode cX9_proposeNow 129 = .ok (.iload 4, 2) := by decide +kernel
theorem dX9_proposeNow_131 : decode cX9_proposeNow 131 = .ok (.aload_n 0, 1) := by decide +kernel
theorem dX9_proposeNow_132 : decode cX9_proposeNow 132 = .ok (.getfield 18, 3) := by decide +kernel
theorem dX9_proposeNow_135 : decode cX9_proposeNow 135 = .ok (.bipush 16, 2) := by decide +kernel
theorem dX9_proposeNow_137 : decode cX9_proposeNow 137 = .ok (.iaload, 1) := by decide +kernel
theorem dX9_proposeNow_138 : decode cX9_proposeNow 138 = .ok (.iload_n 1, 1) := by decide +kernel
theorem dX9_proposeNow_139 : decode cX9_proposeNow 139 = .ok (.invokevirtual 225, 3) := by decide +kernel
theorem dX9_proposeNow_142 : decode cX9_proposeNow 142 = .ok (.aload_n 0, 1) := by decide +kernel
theorem dX9_proposeNow_143 : decode cX9_proposeNow 143 = .ok (.invokevirtual 234, 3) := by decide +kernel
theorem dX9_proposeNow_146 : decode cX9_proposeNow 146 = .ok (.aload_n 0, 1) := by decide +kernel
theorem dX9_proposeNow_147 : decode cX9_proposeNow 147 = .ok (.getfield 18, 3) := by decide +kernel
theorem dX9_proposeNow_150 : decode cX9_proposeNow 150 = .ok (.bipush 16, 2) := by decide +kernel
theorem dX9_proposeNow_152 : decode cX9_proposeNow 152 = .ok (.iaload, 1) := by decide +kernel
theorem dX9_proposeNow_153 : decode cX9_proposeNow 153 = .ok (.ireturn, 1) := by decide +kernel
theorem dX9_isLive_0 : decode cX9_isLive 0 = .ok (.aload_n 0, 1) := by decide +kernel
theorem dX9_isLive_1 : decode cX9_isLive 1 = .ok (.getfield 18, 3) := by decide +kernel
theorem dX9_isLive_4 : decode cX9_isLive 4 = .ok (.iconst 3, 1) := by decide +kernel
theorem dX9_isLive_5 : decode cX9_isLive 5 = .ok (.iaload, 1) := by decide +kernel
theorem dX9_isLive_6 : decode cX9_isLive 6 = .ok (.ifCond .gt 10, 3) := by decide +kernel
theorem dX9_isLive_9 : decode cX9_isLive 9 = .ok (.aload_n 0, 1) := by decide +kernel
theorem dX9_isLive_10 : decode cX9_isLive 10 = .ok (.invokevirtual 231, 3) := by decide +kernel
theorem dX9_isLive_13 : decode cX9_isLive 13 = .ok (.ifCond .eq 7, 3) := by decide +kernel
theorem dX9_isLive_20 : decode cX9_isLive 20 = .ok (.iconst 0, 1) := by decide +kernel
theorem dX9_isLive_21 : decode cX9_isLive 21 = .ok (.istore_n 1, 1) := by decide +kernel
theorem dX9_isLive_22 : decode cX9_isLive 22 = .ok (.iconst 0, 1) := by decide +kernel
theorem dX9_isLive_23 : decode cX9_isLive 23 = .ok (.istore_n 2, 1) := by decide +kernel
theorem dX9_isLive_24 : decode cX9_isLive 24 = .ok (.iload_n 2, 1) := by decide +kernel
theorem dX9_isLive_25 : decode cX9_isLive 25 = .ok (.aload_n 0, 1) := by decide +kernel
theorem dX9_isLive_26 : decode cX9_isLive 26 = .ok (.getfield 18, 3) := by decide +kernel
theorem dX9_isLive_29 : decode cX9_isLive 29 = .ok (.iconst 0, 1) := by decide +kernel
theorem dX9_isLive_30 : decode cX9_isLive 30 = .ok (.iaload, 1) := by decide +kernel
theorem dX9_isLive_31 : decode cX9_isLive 31 = .ok (.if_icmp .ge 35, 3) := by decide +kernel
theorem dX9_isLive_34 : decode cX9_isLive 34 = .ok (.iload_n 1, 1) := by decide +kernel
theorem dX9_isLive_35 : decode cX9_isLive 35 = .ok (.aload_n 0, 1) := by decide +kernel
theorem dX9_isLive_36 : decode cX9_isLive 36 = .ok (.iload_n 2, 1) := by decide +kernel
theorem dX9_isLive_37 : decode cX9_isLive 37 = .ok (.invokevirtual 228, 3) := by decide +kernel
theorem dX9_isLive_40 : decode cX9_isLive 40 = .ok (.ifCond .eq 17, 3) := by decide +kernel
theorem dX9_isLive_43 : decode cX9_isLive 43 = .ok (.aload_n 0, 1) := by decide +kernel
theorem dX9_isLive_44 : decode cX9_isLive 44 = .ok (.iload_n 2, 1) := by decide +kernel
theorem dX9_isLive_45 : decode cX9_isLive 45 = .ok (.iconst 5, 1) := by decide +kernel
theorem dX9_isLive_46 : decode cX9_isLive 46 = .ok (.invokevirtual 181, 3) := by decide +kernel
theorem dX9_isLive_49 : decode cX9_isLive 49 = .ok (.iconst 2, 1) := by decide +kernel
theorem dX9_isLive_50 : decode cX9_isLive 50 = .ok (.if_icmp .ne 7, 3) := by decide +kernel
theorem dX9_isLive_53 : decode cX9_isLive 53 = .ok (.iconst 1, 1) := by decide +kernel
theorem dX9_isLive_54 : decode cX9_isLive 54 = .ok (.goto 4, 3) := by decide +kernel
theorem dX9_isLive_57 : decode cX9_isLive 57 = .ok (.iconst 0, 1) := by decide +kernel
theorem dX9_isLive_58 : decode cX9_isLive 58 = .ok (.ior, 1) := by decide +kernel
theorem dX9_isLive_59 : decode cX9_isLive 59 = .ok (.istore_n 1, 1) := by decide +kernel
theorem dX9_isLive_60 : decode cX9_isLive 60 = .ok (.iinc 2 1, 3) := by decide +kernel
theorem dX9_isLive_63 : decode cX9_isLive 63 = .ok (.goto (-39), 3) := by decide +kernel
theorem dX9_isLive_66 : decode cX9_isLive 66 = .ok (.iload_n 1, 1) := by decide +kernel
theorem dX9_isLive_67 : decode cX9_isLive 67 = .ok (.ireturn, 1) := by decide +kernel
theorem dX9_goOn_0 : decode cX9_goOn 0 = .ok (.iconst 0, 1) := by decide +kernel
theorem dX9_goOn_1 : decode cX9_goOn 1 = .ok (.istore_n 1, 1) := by decide +kernel
theorem dX9_goOn_2 : decode cX9_goOn 2 = .ok (.iload_n 1, 1) := by decide +kernel
theorem dX9_goOn_3 : decode cX9_goOn 3 = .ok (.sipush 400, 3) := by decide +kernel
theorem dX9_goOn_6 : decode cX9_goOn 6 = .ok (.if_icmp .ge 20, 3) := by decide +kernel
theorem dX9_goOn_9 : decode cX9_goOn 9 = .ok (.aload_n 0, 1) := by decide +kernel
theorem dX9_goOn_10 : decode cX9_goOn 10 = .ok (.invokevirtual 256, 3) := by decide +kernel
theorem dX9_goOn_13 : decode cX9_goOn 13 = .ok (.ifCond .eq 13, 3) := by decide +kernel
theorem dX9_goOn_16 : decode cX9_goOn 16 = .ok (.aload_n 0, 1) := by decide +kernel
theorem dX9_goOn_17 : decode cX9_goOn 17 = .ok (.invokevirtual 259, 3) := by decide +kernel
theorem dX9_goOn_20 : decode cX9_goOn 20 = .ok (.iinc 1 1, 3) := by decide +kernel
theorem dX9_goOn_23 : decode cX9_goOn 23 = .ok (.goto (-21), 3) := by decide +kernel
theorem dX9_goOn_26 : decode cX9_goOn 26 = .ok (.iload_n 1, 1) := by decide +kernel
theorem dX9_goOn_27 : decode cX9_goOn 27 = .ok (.ireturn, 1) := by decide +kernel
theorem dX9_noPlayer_0 : decode cX9_noPlayer 0 = .ok (.aload_n 0, 1) := by decide +kernel
theorem dX9_noPlayer_1 : decode cX9_noPlayer 1 = .ok (.iload_n 1, 1) := by decide +kernel
theorem dX9_noPlayer_2 : decode cX9_noPlayer 2 = .ok (.iconst 0, 1) := by decide +kernel
theorem dX9_noPlayer_3 : decode cX9_noPlayer 3 = .ok (.aload_n 0, 1) := by decide +kernel
theorem dX9_noPlayer_4 : decode cX9_noPlayer 4 = .ok (.getfield 18, 3) := by decide +kernel
theorem dX9_noPlayer_7 : decode cX9_noPlayer 7 = .ok (.iconst 0, 1) := by decide +kernel
theorem dX9_noPlayer_8 : decode cX9_noPlayer 8 = .ok (.iaload, 1) := by decide +kernel
theorem dX9_noPlayer_9 : decode cX9_noPlayer 9 = .ok (.iconst 1, 1) := by decide +kernel
theorem dX9_noPlayer_10 : decode cX9_noPlayer 10 = .ok (.isub, 1) := by decide +kernel
theorem dX9_noPlayer_11 : decode cX9_noPlayer 11 = .ok (.invokestatic 65, 3) := by decide +kernel
theorem dX9_noPlayer_14 : decode cX9_noPlayer 14 = .ok (.ifCond .ne 7, 3) := by decide +kernel
theorem dX9_noPlayer_17 : decode cX9_noPlayer 17 = .ok (.iconst 1, 1) := by decide +kernel
theorem dX9_noPlayer_18 : decode cX9_noPlayer 18 = .ok (.goto 4, 3) := by decide +kernel
theorem dX9_noPlayer_21 : decode cX9_noPlayer 21 = .ok (.iconst 0, 1) := by decide +kernel
theorem dX9_noPlayer_22 : decode cX9_noPlayer 22 = .ok (.iconst 1, 1) := by decide +kernel
theorem dX9_noPlayer_23 : decode cX9_noPlayer 23 = .ok (.invokevirtual 167, 3) := by decide +kernel
theorem dX9_noPlayer_26 : decode cX9_noPlayer 26 = .ok (.ireturn, 1) := by decide +kernel
theorem dX9_songs_0 : decode cX9_songs 0 = .ok (.iconst 0, 1) := by decide +kernel
theorem dX9_songs_1 : decode cX9_songs 1 = .ok (.istore_n 1, 1) := by decide +kernel
theorem dX9_songs_2 : decode cX9_songs 2 = .ok (.iconst 0, 1) := by decide +kernel
theorem dX9_songs_3 : decode cX9_songs 3 = .ok (.istore_n 2, 1) := by decide +kernel
theorem dX9_songs_4 : decode cX9_songs 4 = .ok (.iload_n 2, 1) := by decide +kernel
theorem dX9_songs_5 : decode cX9_songs 5 = .ok (.aload_n 0, 1) := by decide +kernel
theorem dX9_songs_6 : decode cX9_songs 6 = .ok (.getfield 18, 3) := by decide +kernel
theorem dX9_songs_9 : decode cX9_songs 9 = .ok (.iconst 0, 1) := by decide +kernel
theorem dX9_songs_10 : decode cX9_songs 10 = .ok (.iaload, 1) := by decide +kernel
theorem dX9_songs_11 : decode cX9_songs 11 = .ok (.if_icmp .ge 75, 3) := by decide +kernel
theorem dX9_songs_14 : decode cX9_songs 14 = .ok (.aload_n 0, 1) := by decide +kernel
theorem dX9_songs_15 : decode cX9_songs 15 = .ok (.iload_n 2, 1) := by decide +kernel
theorem dX9_songs_16 : decode cX9_songs 16 = .ok (.invokevirtual 228, 3) := by decide +kernel
theorem dX9_songs_19 : decode cX9_songs 19 = .ok (.istore_n 3, 1) := by decide +kernel
theorem dX9_songs_20 : decode cX9_songs 20 = .ok (.iconst 0, 1) := by decide +kernel
theorem dX9_songs_21 : decode cX9_songs 21 = .ok (.istore 4, 2) := by decide +kernel
theorem dX9_songs_23 : decode cX9_songs 23 = .ok (.iload 4, 2) := by decide +kernel
theorem dX9_songs_25 : decode cX9_songs 25 = .ok (.iload_n 2, 1) := by decide +kernel
theorem dX9_songs_26 : decode cX9_songs 26 = .ok (.if_icmp .ge 42, 3) := by decide +kernel
theorem dX9_songs_68 : decode cX9_songs 68 = .ok (.iload_n 1, 1) := by decide +kernel
theorem dX9_songs_69 : decode cX9_songs 69 = .ok (.iload_n 3, 1) := by decide +kernel
theorem dX9_songs_70 : decode cX9_songs 70 = .ok (.ifCond .eq 7, 3) := by decide +kernel
theorem dX9_songs_73 : decode cX9_songs 73 = .ok (.iconst 1, 1) := by decide +kernel
theorem dX9_songs_74 : decode cX9_songs 74 = .ok (.goto 4, 3) := by decide +kernel
theorem dX9_songs_78 : decode cX9_songs 78 = .ok (.iadd, 1) := by decide +kernel
theorem dX9_songs_79 : decode cX9_songs 79 = .ok (.istore_n 1, 1) := by decide +kernel
theorem dX9_songs_80 : decode cX9_songs 80 = .ok (.iinc 2 1, 3) := by decide +kernel
theorem dX9_songs_83 : decode cX9_songs 83 = .ok (.goto (-79), 3) := by decide +kernel
theorem dX9_songs_86 : decode cX9_songs 86 = .ok (.iload_n 1, 1) := by decide +kernel
theorem dX9_songs_87 : decode cX9_songs 87 = .ok (.ireturn, 1) := by decide +kernel
theorem dX9_told_0 : decode cX9_told 0 = .ok (.iload_n 1, 1) := by decide +kernel
theorem dX9_told_1 : decode cX9_told 1 = .ok (.tableswitch 58 9 12 #[31, 36, 44, 52], 31) := by decide +kernel
theorem dX9_told_32 : decode cX9_told 32 = .ok (.aload_n 0, 1) := by decide +kernel
theorem dX9_told_33 : decode cX9_told 33 = .ok (.invokevirtual 262, 3) := by decide +kernel
theorem dX9_told_36 : decode cX9_told 36 = .ok (.ireturn, 1) := by decide +kernel
theorem dX9_told_37 : decode cX9_told 37 = .ok (.aload_n 0, 1) := by decide +kernel
theorem dX9_told_38 : decode cX9_told 38 = .ok (.getfield 18, 3) := by decide +kernel
theorem dX9_told_41 : decode cX9_told 41 = .ok (.bipush 9, 2) := by decide +kernel
theorem dX9_told_43 : decode cX9_told 43 = .ok (.iaload, 1) := by decide +kernel
theorem dX9_told_44 : decode cX9_told 44 = .ok (.ireturn, 1) := by decide +kernel
theorem dX9_told_45 : decode cX9_told 45 = .ok (.aload_n 0, 1) := by decide +kernel
theorem dX9_told_46 : decode cX9_told 46 = .ok (.getfield 18, 3) := by decide +kernel
theorem dX9_told_49 : decode cX9_told 49 = .ok (.bipush 10, 2) := by decide +kernel
theorem dX9_told_51 : decode cX9_told 51 = .ok (.iaload, 1) := by decide +kernel
theorem dX9_told_52 : decode cX9_told 52 = .ok (.ireturn, 1) := by decide +kernel
theorem dX9_told_53 : decode cX9_told 53 = .ok (.aload_n 0, 1) := by decide +kernel
theorem dX9_told_54 : decode cX9_told 54 = .ok (.iconst 1, 1) := by decide +kernel
theorem dX9_told_55 : decode cX9_told 55 = .ok (.invokevirtual 265, 3) := by decide +kernel
theorem dX9_told_58 : decode cX9_told 58 = .ok (.ireturn, 1) := by decide +kernel
theorem dX9_told_59 : decode cX9_told 59 = .ok (.aload_n 0, 1) := by decide +kernel
theorem dX9_told_60 : decode cX9_told 60 = .ok (.getfield 18, 3) := by decide +kernel
theorem dX9_told_63 : decode cX9_told 63 = .ok (.iload_n 1, 1) := by decide +kernel
theorem dX9_told_64 : decode cX9_told 64 = .ok (.iaload, 1) := by decide +kernel
theorem dX9_told_65 : decode cX9_told 65 = .ok (.ireturn, 1) := by decide +kernel
theorem dX9_state_0 : decode cX9_state 0 = .ok (.aload_n 0, 1) := by decide +kernel
theorem dX9_state_1 : decode cX9_state 1 = .ok (.iconst 0, 1) := by decide +kernel
theorem dX9_state_2 : decode cX9_state 2 = .ok (.putfield 40, 3) := by decide +kernel
theorem dX9_state_5 : decode cX9_state 5 = .ok (.aload_n 0, 1) := by decide +kernel
theorem dX9_state_6 : decode cX9_state 6 = .ok (.iload_n 1, 1) := by decide +kernel
theorem dX9_state_7 : decode cX9_state 7 = .ok (.iconst 0, 1) := by decide +kernel
theorem dX9_state_8 : decode cX9_state 8 = .ok (.bipush 12, 2) := by decide +kernel
theorem dX9_state_10 : decode cX9_state 10 = .ok (.invokestatic 65, 3) := by decide +kernel
theorem dX9_state_13 : decode cX9_state 13 = .ok (.ifCond .ne 7, 3) := by decide +kernel
theorem dX9_state_16 : decode cX9_state 16 = .ok (.iconst 1, 1) := by decide +kernel
theorem dX9_state_17 : decode cX9_state 17 = .ok (.goto 4, 3) := by decide +kernel
theorem dX9_state_20 : decode cX9_state 20 = .ok (.iconst 0, 1) := by decide +kernel
theorem dX9_state_21 : decode cX9_state 21 = .ok (.iconst 1, 1) := by decide +kernel
theorem dX9_state_22 : decode cX9_state 22 = .ok (.invokevirtual 167, 3) := by decide +kernel
theorem dX9_state_25 : decode cX9_state 25 = .ok (.ifCond .eq 7, 3) := by decide +kernel
theorem dX9_state_28 : decode cX9_state 28 = .ok (.iconst 0, 1) := by decide +kernel
theorem dX9_state_29 : decode cX9_state 29 = .ok (.goto 8, 3) := by decide +kernel
theorem dX9_state_32 : decode cX9_state 32 = .ok (.aload_n 0, 1) := by decide +kernel
theorem dX9_state_33 : decode cX9_state 33 = .ok (.iload_n 1, 1) := by decide +kernel
theorem dX9_state_34 : decode cX9_state 34 = .ok (.invokevirtual 267, 3) := by decide +kernel
theorem dX9_state_37 : decode cX9_state 37 = .ok (.ireturn, 1) := by decide +kernel
theorem dX9_toldPlayer_0 : decode cX9_toldPlayer 0 = .ok (.iload_n 2, 1) := by decide +kernel
theorem dX9_toldPlayer_1 : decode cX9_toldPlayer 1 = .ok (.tableswitch 117 0 8 #[51, 58, 64, 71, 78, 85, 93, 101, 109], 51) := by decide +kernel
theorem dX9_toldPlayer_52 : decode cX9_toldPlayer 52 = .ok (.aload_n 0, 1) := by decide +kernel
theorem dX9_toldPlayer_53 : decode cX9_toldPlayer 53 = .ok (.iload_n 1, 1) := by decide +kernel
theorem dX9_toldPlayer_54 : decode cX9_toldPlayer 54 = .ok (.iconst 0, 1) := by decide +kernel
theorem dX9_toldPlayer_55 : decode cX9_toldPlayer 55 = .ok (.invokevirtual 181, 3) := by decide +kernel
theorem dX9_toldPlayer_58 : decode cX9_toldPlayer 58 = .ok (.ireturn, 1) := by decide +kernel
theorem dX9_toldPlayer_59 : decode cX9_toldPlayer 59 = .ok (.aload_n 0, 1) := by decide +kernel
theorem dX9_toldPlayer_60 : decode cX9_toldPlayer 60 = .ok (.iload_n 1, 1) := by decide +kernel
theorem dX9_toldPlayer_61 : decode cX9_toldPlayer 61 = .ok (.invokevirtual 184, 3) := by decide +kernel
theorem dX9_toldPlayer_64 : decode cX9_toldPlayer 64 = .ok (.ireturn, 1) := by decide +kernel
theorem dX9_toldPlayer_65 : decode cX9_toldPlayer 65 = .ok (.aload_n 0, 1) := by decide +kernel
theorem dX9_toldPlayer_66 : decode cX9_toldPlayer 66 = .ok (.iload_n 1, 1) := by decide +kernel
theorem dX9_toldPlayer_67 : decode cX9_toldPlayer 67 = .ok (.iconst 3, 1) := by decide +kernel
theorem dX9_toldPlayer_68 : decode cX9_toldPlayer 68 = .ok (.invokevirtual 181, 3) := by decide +kernel
theorem dX9_toldPlayer_71 : decode cX9_toldPlayer 71 = .ok (.ireturn, 1) := by decide +kernel
theorem dX9_toldPlayer_72 : decode cX9_toldPlayer 72 = .ok (.aload_n 0, 1) := by decide +kernel
theorem dX9_toldPlayer_73 : decode cX9_toldPlayer 73 = .ok (.iload_n 1, 1) := by decide +kernel
theorem dX9_toldPlayer_74 : decode cX9_toldPlayer 74 = .ok (.iconst 4, 1) := by decide +kernel
theorem dX9_toldPlayer_75 : decode cX9_toldPlayer 75 = .ok (.invokevirtual 181, 3) := by decide +kernel
theorem dX9_toldPlayer_78 : decode cX9_toldPlayer 78 = .ok (.ireturn, 1) := by decide +kernel
theorem dX9_toldPlayer_79 : decode cX9_toldPlayer 79 = .ok (.aload_n 0, 1) := by decide +kernel
theorem dX9_toldPlayer_80 : decode cX9_toldPlayer 80 = .ok (.iload_n 1, 1) := by decide +kernel
theorem dX9_toldPlayer_81 : decode cX9_toldPlayer 81 = .ok (.iconst 5, 1) := by decide +kernel
theorem dX9_toldPlayer_82 : decode cX9_toldPlayer 82 = .ok (.invokevirtual 181, 3) := by decide +kernel
theorem dX9_toldPlayer_85 : decode cX9_toldPlayer 85 = .ok (.ireturn, 1) := by decide +kernel
theorem dX9_toldPlayer_86 : decode cX9_toldPlayer 86 = .ok (.aload_n 0, 1) := by decide +kernel
theorem dX9_toldPlayer_87 : decode cX9_toldPlayer 87 = .ok (.iload_n 1, 1) := by decide +kernel
theorem dX9_toldPlayer_88 : decode cX9_toldPlayer 88 = .ok (.bipush 6, 2) := by decide +kernel
theorem dX9_toldPlayer_90 : decode cX9_toldPlayer 90 = .ok (.invokevirtual 181, 3) := by decide +kernel
theorem dX9_toldPlayer_93 : decode cX9_toldPlayer 93 = .ok (.ireturn, 1) := by decide +kernel
theorem dX9_toldPlayer_94 : decode cX9_toldPlayer 94 = .ok (.aload_n 0, 1) := by decide +kernel
theorem dX9_toldPlayer_95 : decode cX9_toldPlayer 95 = .ok (.iload_n 1, 1) := by decide +kernel
theorem dX9_toldPlayer_96 : decode cX9_toldPlayer 96 = .ok (.bipush 9, 2) := by decide +kernel
theorem dX9_toldPlayer_98 : decode cX9_toldPlayer 98 = .ok (.invokevirtual 181, 3) := by decide +kernel
theorem dX9_toldPlayer_101 : decode cX9_toldPlayer 101 = .ok (.ireturn, 1) := by decide +kernel
theorem dX9_toldPlayer_102 : decode cX9_toldPlayer 102 = .ok (.aload_n 0, 1) := by decide +kernel
theorem dX9_toldPlayer_103 : decode cX9_toldPlayer 103 = .ok (.iload_n 1, 1) := by decide +kernel
theorem dX9_toldPlayer_104 : decode cX9_toldPlayer 104 = .ok (.bipush 10, 2) := by decide +kernel
theorem dX9_toldPlayer_106 : decode cX9_toldPlayer 106 = .ok (.invokevirtual 181, 3) := by decide +kernel
theorem dX9_toldPlayer_109 : decode cX9_toldPlayer 109 = .ok (.ireturn, 1) := by decide +kernel
theorem dX9_toldPlayer_110 : decode cX9_toldPlayer 110 = .ok (.aload_n 0, 1) := by decide +kernel
theorem dX9_toldPlayer_111 : decode cX9_toldPlayer 111 = .ok (.iload_n 1, 1) := by decide +kernel
theorem dX9_toldPlayer_112 : decode cX9_toldPlayer 112 = .ok (.bipush 11, 2) := by decide +kernel
theorem dX9_toldPlayer_114 : decode cX9_toldPlayer 114 = .ok (.invokevirtual 181, 3) := by decide +kernel
theorem dX9_toldPlayer_117 : decode cX9_toldPlayer 117 = .ok (.ireturn, 1) := by decide +kernel
theorem dX9_toldPlayer_118 : decode cX9_toldPlayer 118 = .ok (.aload_n 0, 1) := by decide +kernel
theorem dX9_toldPlayer_119 : decode cX9_toldPlayer 119 = .ok (.iload_n 1, 1) := by decide +kernel
theorem dX9_toldPlayer_120 : decode cX9_toldPlayer 120 = .ok (.invokevirtual 244, 3) := by decide +kernel
theorem dX9_toldPlayer_123 : decode cX9_toldPlayer 123 = .ok (.aload_n 0, 1) := by decide +kernel
theorem dX9_toldPlayer_124 : decode cX9_toldPlayer 124 = .ok (.aload_n 0, 1) := by decide +kernel
theorem dX9_toldPlayer_125 : decode cX9_toldPlayer 125 = .ok (.getfield 18, 3) := by decide +kernel
theorem dX9_toldPlayer_128 : decode cX9_toldPlayer 128 = .ok (.iconst 2, 1) := by decide +kernel
theorem dX9_toldPlayer_129 : decode cX9_toldPlayer 129 = .ok (.iaload, 1) := by decide +kernel
theorem dX9_toldPlayer_130 : decode cX9_toldPlayer 130 = .ok (.invokevirtual 184, 3) := by decide +kernel
theorem dX9_toldPlayer_133 : decode cX9_toldPlayer 133 = .ok (.isub, 1) := by decide +kernel
theorem dX9_toldPlayer_134 : decode cX9_toldPlayer 134 = .ok (.ireturn, 1) := by decide +kernel
theorem dX9_player_0 : decode cX9_player 0 = .ok (.aload_n 0, 1) := by decide +kernel
theorem dX9_player_1 : decode cX9_player 1 = .ok (.iconst 0, 1) := by decide +kernel
theorem dX9_player_2 : decode cX9_player 2 = .ok (.putfield 40, 3) := by decide +kernel
theorem dX9_player_5 : decode cX9_player 5 = .ok (.aload_n 0, 1) := by decide +kernel
theorem dX9_player_6 : decode cX9_player 6 = .ok (.iload_n 1, 1) := by decide +kernel
theorem dX9_player_7 : decode cX9_player 7 = .ok (.invokevirtual 270, 3) := by decide +kernel
theorem dX9_player_10 : decode cX9_player 10 = .ok (.ifCond .ne 26, 3) := by decide +kernel
theorem dX9_player_13 : decode cX9_player 13 = .ok (.aload_n 0, 1) := by decide +kernel
theorem dX9_player_14 : decode cX9_player 14 = .ok (.iload_n 2, 1) := by decide +kernel
theorem dX9_player_15 : decode cX9_player 15 = .ok (.iconst 0, 1) := by decide +kernel
theorem dX9_player_16 : decode cX9_player 16 = .ok (.bipush 9, 2) := by decide +kernel
theorem dX9_player_18 : decode cX9_player 18 = .ok (.invokestatic 65, 3) := by decide +kernel
theorem dX9_player_21 : decode cX9_player 21 = .ok (.ifCond .ne 7, 3) := by decide +kernel
theorem dX9_player_24 : decode cX9_player 24 = .ok (.iconst 1, 1) := by decide +kernel
theorem dX9_player_25 : decode cX9_player 25 = .ok (.goto 4, 3) := by decide +kernel
theorem dX9_player_28 : decode cX9_player 28 = .ok (.iconst 0, 1) := by decide +kernel
theorem dX9_player_29 : decode cX9_player 29 = .ok (.iconst 2, 1) := by decide +kernel
theorem dX9_player_30 : decode cX9_player 30 = .ok (.invokevirtual 167, 3) := by decide +kernel
theorem dX9_player_33 : decode cX9_player 33 = .ok (.ifCond .eq 7, 3) := by decide +kernel
theorem dX9_player_36 : decode cX9_player 36 = .ok (.iconst 0, 1) := by decide +kernel
theorem dX9_player_37 : decode cX9_player 37 = .ok (.goto 9, 3) := by decide +kernel
theorem dX9_player_40 : decode cX9_player 40 = .ok (.aload_n 0, 1) := by decide +kernel
theorem dX9_player_41 : decode cX9_player 41 = .ok (.iload_n 1, 1) := by decide +kernel
theorem dX9_player_42 : decode cX9_player 42 = .ok (.iload_n 2, 1) := by decide +kernel
theorem dX9_player_43 : decode cX9_player 43 = .ok (.invokevirtual 273, 3) := by decide +kernel
theorem dX9_player_46 : decode cX9_player 46 = .ok (.ireturn, 1) := by decide +kernel
theorem dX9_link_0 : decode cX9_link 0 = .ok (.aload_n 0, 1) := by decide +kernel
theorem dX9_link_1 : decode cX9_link 1 = .ok (.iconst 0, 1) := by decide +kernel
theorem dX9_link_2 : decode cX9_link 2 = .ok (.putfield 40, 3) := by decide +kernel
theorem dX9_link_5 : decode cX9_link 5 = .ok (.aload_n 0, 1) := by decide +kernel
theorem dX9_link_6 : decode cX9_link 6 = .ok (.iload_n 1, 1) := by decide +kernel
theorem dX9_link_7 : decode cX9_link 7 = .ok (.invokevirtual 270, 3) := by decide +kernel
theorem dX9_link_10 : decode cX9_link 10 = .ok (.ifCond .ne 11, 3) := by decide +kernel
theorem dX9_link_13 : decode cX9_link 13 = .ok (.aload_n 0, 1) := by decide +kernel
theorem dX9_link_14 : decode cX9_link 14 = .ok (.iload_n 2, 1) := by decide +kernel
theorem dX9_link_15 : decode cX9_link 15 = .ok (.invokevirtual 270, 3) := by decide +kernel
theorem dX9_link_18 : decode cX9_link 18 = .ok (.ifCond .eq 7, 3) := by decide +kernel
theorem dX9_link_21 : decode cX9_link 21 = .ok (.iconst 0, 1) := by decide +kernel
theorem dX9_link_22 : decode cX9_link 22 = .ok (.goto 13, 3) := by decide +kernel
theorem dX9_link_25 : decode cX9_link 25 = .ok (.aload_n 0, 1) := by decide +kernel
theorem dX9_link_26 : decode cX9_link 26 = .ok (.getfield 18, 3) := by decide +kernel
theorem dX9_link_29 : decode cX9_link 29 = .ok (.iload_n 1, 1) := by decide +kernel
theorem dX9_link_30 : decode cX9_link 30 = .ok (.iload_n 2, 1) := by decide +kernel
theorem dX9_link_31 : decode cX9_link 31 = .ok (.invokestatic 145, 3) := by decide +kernel
theorem dX9_link_34 : decode cX9_link 34 = .ok (.iaload, 1) := by decide +kernel
theorem dX9_link_35 : decode cX9_link 35 = .ok (.ireturn, 1) := by decide +kernel
theorem dX9_message_0 : decode cX9_message 0 = .ok (.aload_n 0, 1) := by decide +kernel
theorem dX9_message_1 : decode cX9_message 1 = .ok (.iconst 0, 1) := by decide +kernel
theorem dX9_message_2 : decode cX9_message 2 = .ok (.putfield 40, 3) := by decide +kernel
theorem dX9_message_5 : decode cX9_message 5 = .ok (.aload_n 0, 1) := by decide +kernel
theorem dX9_message_6 : decode cX9_message 6 = .ok (.iload_n 1, 1) := by decide +kernel
theorem dX9_message_7 : decode cX9_message 7 = .ok (.iconst 0, 1) := by decide +kernel
theorem dX9_message_8 : decode cX9_message 8 = .ok (.aload_n 0, 1) := by decide +kernel
theorem dX9_message_9 : decode cX9_message 9 = .ok (.getfield 18, 3) := by decide +kernel
theorem dX9_message_12 : decode cX9_message 12 = .ok (.iconst 3, 1) := by decide +kernel
theorem dX9_message_13 : decode cX9_message 13 = .ok (.iaload, 1) := by decide +kernel
theorem dX9_message_14 : decode cX9_message 14 = .ok (.iconst 1, 1) := by decide +kernel
theorem dX9_message_15 : decode cX9_message 15 = .ok (.isub, 1) := by decide +kernel
theorem dX9_message_16 : decode cX9_message 16 = .ok (.invokestatic 65, 3) := by decide +kernel
theorem dX9_message_19 : decode cX9_message 19 = .ok (.ifCond .ne 7, 3) := by decide +kernel
theorem dX9_message_22 : decode cX9_message 22 = .ok (.iconst 1, 1) := by decide +kernel
theorem dX9_message_23 : decode cX9_message 23 = .ok (.goto 4, 3) := by decide +kernel
theorem dX9_message_27 : decode cX9_message 27 = .ok (.iconst 1, 1) := by decide +kernel
theorem dX9_message_28 : decode cX9_message 28 = .ok (.invokevirtual 167, 3) := by decide +kernel
theorem dX9_message_31 : decode cX9_message 31 = .ok (.ifCond .ne 25, 3) := by decide +kernel
theorem dX9_message_56 : decode cX9_message 56 = .ok (.iconst 0, 1) := by decide +kernel
theorem dX9_message_57 : decode cX9_message 57 = .ok (.goto 13, 3) := by decide +kernel
theorem dX9_message_70 : decode cX9_message 70 = .ok (.ireturn, 1) := by decide +kernel
theorem dX9_proposal_0 : decode cX9_proposal 0 = .ok (.aload_n 0, 1) := by decide +kernel
theorem dX9_proposal_1 : decode cX9_proposal 1 = .ok (.iconst 0, 1) := by decide +kernel
theorem dX9_proposal_2 : decode cX9_proposal 2 = .ok (.putfield 40, 3) := by decide +kernel
theorem dX9_proposal_5 : decode cX9_proposal 5 = .ok (.aload_n 0, 1) := by decide +kernel
theorem dX9_proposal_6 : decode cX9_proposal 6 = .ok (.aload_n 0, 1) := by decide +kernel
theorem dX9_proposal_7 : decode cX9_proposal 7 = .ok (.getfield 18, 3) := by decide +kernel
theorem dX9_proposal_10 : decode cX9_proposal 10 = .ok (.bipush 6, 2) := by decide +kernel
theorem dX9_proposal_12 : decode cX9_proposal 12 = .ok (.iaload, 1) := by decide +kernel
theorem dX9_proposal_13 : decode cX9_proposal 13 = .ok (.ifCond .ne 7, 3) := by decide +kernel
theorem dX9_proposal_16 : decode cX9_proposal 16 = .ok (.iconst 1, 1) := by decide +kernel
theorem dX9_proposal_17 : decode cX9_proposal 17 = .ok (.goto 4, 3) := by decide +kernel
theorem dX9_proposal_21 : decode cX9_proposal 21 = .ok (.iconst 1, 1) := by decide +kernel
theorem dX9_proposal_22 : decode cX9_proposal 22 = .ok (.invokevirtual 167, 3) := by decide +kernel
theorem dX9_proposal_25 : decode cX9_proposal 25 = .ok (.ifCond .ne 25, 3) := by decide +kernel
theorem dX9_proposal_50 : decode cX9_proposal 50 = .ok (.iconst 0, 1) := by decide +kernel
theorem dX9_proposal_51 : decode cX9_proposal 51 = .ok (.goto 12, 3) := by decide +kernel
theorem dX9_proposal_63 : decode cX9_proposal 63 = .ok (.ireturn, 1) := by decide +kernel
theorem dX9_spreadNow_0 : decode cX9_spreadNow 0 = .ok (.aload_n 0, 1) := by decide +kernel
theorem dX9_spreadNow_1 : decode cX9_spreadNow 1 = .ok (.getfield 18, 3) := by decide +kernel
theorem dX9_spreadNow_4 : decode cX9_spreadNow 4 = .ok (.bipush 21, 2) := by decide +kernel
theorem dX9_spreadNow_6 : decode cX9_spreadNow 6 = .ok (.iaload, 1) := by decide +kernel
theorem dX9_spreadNow_7 : decode cX9_spreadNow 7 = .ok (.iconst (-1), 1) := by decide +kernel
theorem dX9_spreadNow_8 : decode cX9_spreadNow 8 = .ok (.if_icmp .ne 7, 3) := by decide +kernel
theorem dX9_spreadNow_11 : decode cX9_spreadNow 11 = .ok (.iconst (-1), 1) := by decide +kernel
theorem dX9_spreadNow_12 : decode cX9_spreadNow 12 = .ok (.goto 18, 3) := by decide +kernel
theorem dX9_spreadNow_30 : decode cX9_spreadNow 30 = .ok (.ireturn, 1) := by decide +kernel
theorem dX9_spread_0 : decode cX9_spread 0 = .ok (.aload_n 0, 1) := by decide +kernel
theorem dX9_spread_1 : decode cX9_spread 1 = .ok (.iconst 0, 1) := by decide +kernel
theorem dX9_spread_2 : decode cX9_spread 2 = .ok (.putfield 40, 3) := by decide +kernel
theorem dX9_spread_5 : decode cX9_spread 5 = .ok (.aload_n 0, 1) := by decide +kernel
theorem dX9_spread_6 : decode cX9_spread 6 = .ok (.invokevirtual 282, 3) := by decide +kernel
theorem dX9_spread_9 : decode cX9_spread 9 = .ok (.ireturn, 1) := by decide +kernel
theorem dX9_foretold_0 : decode cX9_foretold 0 = .ok (.aload_n 0, 1) := by decide +kernel
theorem dX9_foretold_1 : decode cX9_foretold 1 = .ok (.iconst 0, 1) := by decide +kernel
theorem dX9_foretold_2 : decode cX9_foretold 2 = .ok (.putfield 40, 3) := by decide +kernel
theorem dX9_foretold_5 : decode cX9_foretold 5 = .ok (.aload_n 0, 1) := by decide +kernel
theorem dX9_foretold_6 : decode cX9_foretold 6 = .ok (.iload_n 1, 1) := by decide +kernel
theorem dX9_foretold_7 : decode cX9_foretold 7 = .ok (.iconst 0, 1) := by decide +kernel
theorem dX9_foretold_8 : decode cX9_foretold 8 = .ok (.iconst 4, 1) := by decide +kernel
theorem dX9_foretold_9 : decode cX9_foretold 9 = .ok (.invokestatic 65, 3) := by decide +kernel
theorem dX9_foretold_12 : decode cX9_foretold 12 = .ok (.ifCond .ne 7, 3) := by decide +kernel
theorem dX9_foretold_15 : decode cX9_foretold 15 = .ok (.iconst 1, 1) := by decide +kernel
theorem dX9_foretold_16 : decode cX9_foretold 16 = .ok (.goto 4, 3) := by decide +kernel
theorem dX9_foretold_19 : decode cX9_foretold 19 = .ok (.iconst 0, 1) := by decide +kernel
theorem dX9_foretold_20 : decode cX9_foretold 20 = .ok (.iconst 1, 1) := by decide +kernel
theorem dX9_foretold_21 : decode cX9_foretold 21 = .ok (.invokevirtual 167, 3) := by decide +kernel
theorem dX9_foretold_24 : decode cX9_foretold 24 = .ok (.ifCond .eq 5, 3) := by decide +kernel
theorem dX9_foretold_27 : decode cX9_foretold 27 = .ok (.iconst 0, 1) := by decide +kernel
theorem dX9_foretold_28 : decode cX9_foretold 28 = .ok (.ireturn, 1) := by decide +kernel
theorem dX9_foretold_29 : decode cX9_foretold 29 = .ok (.aload_n 0, 1) := by decide +kernel
theorem dX9_foretold_30 : decode cX9_foretold 30 = .ok (.getfield 18, 3) := by decide +kernel
theorem dX9_foretold_33 : decode cX9_foretold 33 = .ok (.aload_n 0, 1) := by decide +kernel
theorem dX9_foretold_34 : decode cX9_foretold 34 = .ok (.getfield 21, 3) := by decide +kernel
theorem dX9_foretold_37 : decode cX9_foretold 37 = .ok (.invokestatic 177, 3) := by decide +kernel
theorem dX9_foretold_40 : decode cX9_foretold 40 = .ok (.aload_n 0, 1) := by decide +kernel
theorem dX9_foretold_41 : decode cX9_foretold 41 = .ok (.getfield 18, 3) := by decide +kernel
theorem dX9_foretold_44 : decode cX9_foretold 44 = .ok (.bipush 10, 2) := by decide +kernel
theorem dX9_foretold_46 : decode cX9_foretold 46 = .ok (.iaload, 1) := by decide +kernel
theorem dX9_foretold_47 : decode cX9_foretold 47 = .ok (.istore_n 2, 1) := by decide +kernel
theorem dX9_foretold_48 : decode cX9_foretold 48 = .ok (.aload_n 0, 1) := by decide +kernel
theorem dX9_foretold_49 : decode cX9_foretold 49 = .ok (.invokevirtual 285, 3) := by decide +kernel
theorem dX9_foretold_52 : decode cX9_foretold 52 = .ok (.istore_n 3, 1) := by decide +kernel
theorem dX9_foretold_53 : decode cX9_foretold 53 = .ok (.iload_n 1, 1) := by decide +kernel
theorem dX9_foretold_54 : decode cX9_foretold 54 = .ok (.ifCond .ne 7, 3) := by decide +kernel
theorem dX9_foretold_57 : decode cX9_foretold 57 = .ok (.iload_n 3, 1) := by decide +kernel
theorem dX9_foretold_58 : decode cX9_foretold 58 = .ok (.goto 65, 3) := by decide +kernel
theorem dX9_foretold_61 : decode cX9_foretold 61 = .ok (.iload_n 1, 1) := by decide +kernel
theorem dX9_foretold_62 : decode cX9_foretold 62 = .ok (.iconst 1, 1) := by decide +kernel
theorem dX9_foretold_63 : decode cX9_foretold 63 = .ok (.if_icmp .ne 27, 3) := by decide +kernel
theorem dX9_foretold_66 : decode cX9_foretold 66 = .ok (.aload_n 0, 1) := by decide +kernel
theorem dX9_foretold_67 : decode cX9_foretold 67 = .ok (.getfield 18, 3) := by decide +kernel
theorem dX9_foretold_70 : decode cX9_foretold 70 = .ok (.bipush 6, 2) := by decide +kernel
theorem dX9_foretold_72 : decode cX9_foretold 72 = .ok (.iaload, 1) := by decide +kernel
theorem dX9_foretold_73 : decode cX9_foretold 73 = .ok (.ifCond .ne 7, 3) := by decide +kernel
theorem dX9_foretold_76 : decode cX9_foretold 76 = .ok (.iconst (-1), 1) := by decide +kernel
theorem dX9_foretold_77 : decode cX9_foretold 77 = .ok (.goto 46, 3) := by decide +kernel
theorem dX9_foretold_90 : decode cX9_foretold 90 = .ok (.iload_n 1, 1) := by decide +kernel
theorem dX9_foretold_91 : decode cX9_foretold 91 = .ok (.iconst 2, 1) := by decide +kernel
theorem dX9_foretold_92 : decode cX9_foretold 92 = .ok (.if_icmp .ne 10, 3) := by decide +kernel
theorem dX9_foretold_95 : decode cX9_foretold 95 = .ok (.aload_n 0, 1) := by decide +kernel
theorem dX9_foretold_96 : decode cX9_foretold 96 = .ok (.invokevirtual 282, 3) := by decide +kernel
theorem dX9_foretold_99 : decode cX9_foretold 99 = .ok (.goto 24, 3) := by decide +kernel
theorem dX9_foretold_102 : decode cX9_foretold 102 = .ok (.iload_n 1, 1) := by decide +kernel
theorem dX9_foretold_103 : decode cX9_foretold 103 = .ok (.iconst 3, 1) := by decide +kernel
theorem dX9_foretold_104 : decode cX9_foretold 104 = .ok (.if_icmp .ne 10, 3) := by decide +kernel
theorem dX9_foretold_107 : decode cX9_foretold 107 = .ok (.aload_n 0, 1) := by decide +kernel
theorem dX9_foretold_108 : decode cX9_foretold 108 = .ok (.invokevirtual 262, 3) := by decide +kernel
theorem dX9_foretold_111 : decode cX9_foretold 111 = .ok (.goto 12, 3) := by decide +kernel
theorem dX9_foretold_114 : decode cX9_foretold 114 = .ok (.aload_n 0, 1) := by decide +kernel
theorem dX9_foretold_115 : decode cX9_foretold 115 = .ok (.getfield 18, 3) := by decide +kernel
theorem dX9_foretold_118 : decode cX9_foretold 118 = .ok (.bipush 10, 2) := by decide +kernel
theorem dX9_foretold_120 : decode cX9_foretold 120 = .ok (.iaload, 1) := by decide +kernel
theorem dX9_foretold_121 : decode cX9_foretold 121 = .ok (.iload_n 2, 1) := by decide +kernel
theorem dX9_foretold_122 : decode cX9_foretold 122 = .ok (.isub, 1) := by decide +kernel
theorem dX9_foretold_123 : decode cX9_foretold 123 = .ok (.istore 4, 2) := by decide +kernel
theorem dX9_foretold_125 : decode cX9_foretold 125 = .ok (.aload_n 0, 1) := by decide +kernel
theorem dX9_foretold_126 : decode cX9_foretold 126 = .ok (.getfield 21, 3) := by decide +kernel
theorem dX9_foretold_129 : decode cX9_foretold 129 = .ok (.aload_n 0, 1) := by decide +kernel
theorem dX9_foretold_130 : decode cX9_foretold 130 = .ok (.getfield 18, 3) := by decide +kernel
theorem dX9_foretold_133 : decode cX9_foretold 133 = .ok (.invokestatic 177, 3) := by decide +kernel
theorem dX9_foretold_136 : decode cX9_foretold 136 = .ok (.iload 4, 2) := by decide +kernel
theorem dX9_foretold_138 : decode cX9_foretold 138 = .ok (.ireturn, 1) := by decide +kernel
theorem dX9_isSafe_0 : decode cX9_isSafe 0 = .ok (.aload_n 0, 1) := by decide +kernel
theorem dX9_isSafe_1 : decode cX9_isSafe 1 = .ok (.getfield 18, 3) := by decide +kernel
theorem dX9_isSafe_4 : decode cX9_isSafe 4 = .ok (.bipush 10, 2) := by decide +kernel
theorem dX9_isSafe_6 : decode cX9_isSafe 6 = .ok (.iaload, 1) := by decide +kernel
theorem dX9_isSafe_7 : decode cX9_isSafe 7 = .ok (.istore_n 2, 1) := by decide +kernel
theorem dX9_isSafe_8 : decode cX9_isSafe 8 = .ok (.aload_n 0, 1) := by decide +kernel
theorem dX9_isSafe_9 : decode cX9_isSafe 9 = .ok (.iconst 1, 1) := by decide +kernel
theorem dX9_isSafe_10 : decode cX9_isSafe 10 = .ok (.iload_n 1, 1) := by decide +kernel
theorem dX9_isSafe_11 : decode cX9_isSafe 11 = .ok (.invokevirtual 288, 3) := by decide +kernel
theorem dX9_isSafe_14 : decode cX9_isSafe 14 = .ok (.pop, 1) := by decide +kernel
theorem dX9_isSafe_15 : decode cX9_isSafe 15 = .ok (.aload_n 0, 1) := by decide +kernel
theorem dX9_isSafe_16 : decode cX9_isSafe 16 = .ok (.invokevirtual 285, 3) := by decide +kernel
theorem dX9_isSafe_19 : decode cX9_isSafe 19 = .ok (.pop, 1) := by decide +kernel
theorem dX9_isSafe_20 : decode cX9_isSafe 20 = .ok (.aload_n 0, 1) := by decide +kernel
theorem dX9_isSafe_21 : decode cX9_isSafe 21 = .ok (.getfield 18, 3) := by decide +kernel
theorem dX9_isSafe_24 : decode cX9_isSafe 24 = .ok (.bipush 20, 2) := by decide +kernel
theorem dX9_isSafe_26 : decode cX9_isSafe 26 = .ok (.iaload, 1) := by decide +kernel
theorem dX9_isSafe_27 : decode cX9_isSafe 27 = .ok (.iconst 1, 1) := by decide +kernel
theorem dX9_isSafe_28 : decode cX9_isSafe 28 = .ok (.if_icmp .ne 18, 3) := by decide +kernel
theorem dX9_isSafe_31 : decode cX9_isSafe 31 = .ok (.aload_n 0, 1) := by decide +kernel
theorem dX9_isSafe_32 : decode cX9_isSafe 32 = .ok (.getfield 18, 3) := by decide +kernel
theorem dX9_isSafe_35 : decode cX9_isSafe 35 = .ok (.bipush 10, 2) := by decide +kernel
theorem dX9_isSafe_37 : decode cX9_isSafe 37 = .ok (.iaload, 1) := by decide +kernel
theorem dX9_isSafe_38 : decode cX9_isSafe 38 = .ok (.iload_n 2, 1) := by decide +kernel
theorem dX9_isSafe_39 : decode cX9_isSafe 39 = .ok (.if_icmp .ne 7, 3) := by decide +kernel
theorem dX9_isSafe_42 : decode cX9_isSafe 42 = .ok (.iconst 1, 1) := by decide +kernel
theorem dX9_isSafe_43 : decode cX9_isSafe 43 = .ok (.goto 4, 3) := by decide +kernel
theorem dX9_isSafe_47 : decode cX9_isSafe 47 = .ok (.ireturn, 1) := by decide +kernel
theorem dX9_mayPropose_0 : decode cX9_mayPropose 0 = .ok (.aload_n 0, 1) := by decide +kernel
theorem dX9_mayPropose_1 : decode cX9_mayPropose 1 = .ok (.aload_n 0, 1) := by decide +kernel
theorem dX9_mayPropose_2 : decode cX9_mayPropose 2 = .ok (.getfield 18, 3) := by decide +kernel
theorem dX9_mayPropose_5 : decode cX9_mayPropose 5 = .ok (.iconst 2, 1) := by decide +kernel
theorem dX9_mayPropose_6 : decode cX9_mayPropose 6 = .ok (.iaload, 1) := by decide +kernel
theorem dX9_mayPropose_7 : decode cX9_mayPropose 7 = .ok (.invokevirtual 228, 3) := by decide +kernel
theorem dX9_mayPropose_10 : decode cX9_mayPropose 10 = .ok (.ifCond .eq 14, 3) := by decide +kernel
theorem dX9_mayPropose_13 : decode cX9_mayPropose 13 = .ok (.aload_n 0, 1) := by decide +kernel
theorem dX9_mayPropose_14 : decode cX9_mayPropose 14 = .ok (.invokevirtual 231, 3) := by decide +kernel
theorem dX9_mayPropose_17 : decode cX9_mayPropose 17 = .ok (.ifCond .ne 7, 3) := by decide +kernel
theorem dX9_mayPropose_20 : decode cX9_mayPropose 20 = .ok (.iconst 1, 1) := by decide +kernel
theorem dX9_mayPropose_21 : decode cX9_mayPropose 21 = .ok (.goto 4, 3) := by decide +kernel
theorem dX9_mayPropose_25 : decode cX9_mayPropose 25 = .ok (.ireturn, 1) := by decide +kernel
theorem dX9_safest_0 : decode cX9_safest 0 = .ok (.aload_n 0, 1) := by decide +kernel
theorem dX9_safest_1 : decode cX9_safest 1 = .ok (.iconst 0, 1) := by decide +kernel
theorem dX9_safest_2 : decode cX9_safest 2 = .ok (.putfield 40, 3) := by decide +kernel
theorem dX9_safest_5 : decode cX9_safest 5 = .ok (.aload_n 0, 1) := by decide +kernel
theorem dX9_safest_6 : decode cX9_safest 6 = .ok (.invokevirtual 291, 3) := by decide +kernel
theorem dX9_safest_9 : decode cX9_safest 9 = .ok (.ifCond .ne 5, 3) := by decide +kernel
theorem dX9_safest_14 : decode cX9_safest 14 = .ok (.aload_n 0, 1) := by decide +kernel
theorem dX9_safest_15 : decode cX9_safest 15 = .ok (.getfield 18, 3) := by decide +kernel
theorem dX9_safest_18 : decode cX9_safest 18 = .ok (.aload_n 0, 1) := by decide +kernel
theorem dX9_safest_19 : decode cX9_safest 19 = .ok (.getfield 21, 3) := by decide +kernel
theorem dX9_safest_22 : decode cX9_safest 22 = .ok (.invokestatic 177, 3) := by decide +kernel
theorem dX9_safest_25 : decode cX9_safest 25 = .ok (.iconst 1, 1) := by decide +kernel
theorem dX9_safest_26 : decode cX9_safest 26 = .ok (.istore_n 1, 1) := by decide +kernel
theorem dX9_safest_27 : decode cX9_safest 27 = .ok (.iload_n 1, 1) := by decide +kernel
theorem dX9_safest_28 : decode cX9_safest 28 = .ok (.bipush 60, 2) := by decide +kernel
theorem dX9_safest_30 : decode cX9_safest 30 = .ok (.if_icmp .gt 32, 3) := by decide +kernel
theorem dX9_safest_33 : decode cX9_safest 33 = .ok (.aload_n 0, 1) := by decide +kernel
theorem dX9_safest_34 : decode cX9_safest 34 = .ok (.iload_n 1, 1) := by decide +kernel
theorem dX9_safest_35 : decode cX9_safest 35 = .ok (.invokevirtual 294, 3) := by decide +kernel
theorem dX9_safest_38 : decode cX9_safest 38 = .ok (.istore_n 2, 1) := by decide +kernel
theorem dX9_safest_39 : decode cX9_safest 39 = .ok (.aload_n 0, 1) := by decide +kernel
theorem dX9_safest_40 : decode cX9_safest 40 = .ok (.getfield 21, 3) := by decide +kernel
theorem dX9_safest_43 : decode cX9_safest 43 = .ok (.aload_n 0, 1) := by decide +kernel
theorem dX9_safest_44 : decode cX9_safest 44 = .ok (.getfield 18, 3) := by decide +kernel
theorem dX9_safest_47 : decode cX9_safest 47 = .ok (.invokestatic 177, 3) := by decide +kernel
theorem dX9_safest_50 : decode cX9_safest 50 = .ok (.iload_n 2, 1) := by decide +kernel
theorem dX9_safest_51 : decode cX9_safest 51 = .ok (.ifCond .eq 5, 3) := by decide +kernel
theorem dX9_safest_54 : decode cX9_safest 54 = .ok (.iload_n 1, 1) := by decide +kernel
theorem dX9_safest_55 : decode cX9_safest 55 = .ok (.ireturn, 1) := by decide +kernel
theorem dX9_meanError_0 : decode cX9_meanError 0 = .ok (.aload_n 0, 1) := by decide +kernel
theorem dX9_meanError_1 : decode cX9_meanError 1 = .ok (.iconst 0, 1) := by decide +kernel
theorem dX9_meanError_2 : decode cX9_meanError 2 = .ok (.putfield 40, 3) := by decide +kernel
theorem dX9_meanError_5 : decode cX9_meanError 5 = .ok (.iconst 0, 1) := by decide +kernel
theorem dX9_meanError_6 : decode cX9_meanError 6 = .ok (.istore_n 1, 1) := by decide +kernel
theorem dX9_meanError_7 : decode cX9_meanError 7 = .ok (.aload_n 0, 1) := by decide +kernel
theorem dX9_meanError_8 : decode cX9_meanError 8 = .ok (.invokevirtual 200, 3) := by decide +kernel
theorem dX9_meanError_11 : decode cX9_meanError 11 = .ok (.istore_n 2, 1) := by decide +kernel
theorem dX9_meanError_12 : decode cX9_meanError 12 = .ok (.iconst 0, 1) := by decide +kernel
theorem dX9_meanError_13 : decode cX9_meanError 13 = .ok (.istore_n 3, 1) := by decide +kernel
theorem dX9_meanError_14 : decode cX9_meanError 14 = .ok (.iload_n 3, 1) := by decide +kernel
theorem dX9_meanError_15 : decode cX9_meanError 15 = .ok (.aload_n 0, 1) := by decide +kernel
theorem dX9_meanError_16 : decode cX9_meanError 16 = .ok (.getfield 18, 3) := by decide +kernel
theorem dX9_meanError_19 : decode cX9_meanError 19 = .ok (.iconst 0, 1) := by decide +kernel
theorem dX9_meanError_20 : decode cX9_meanError 20 = .ok (.iaload, 1) := by decide +kernel
theorem dX9_meanError_21 : decode cX9_meanError 21 = .ok (.if_icmp .ge 34, 3) := by decide +kernel
theorem dX9_meanError_24 : decode cX9_meanError 24 = .ok (.iload_n 1, 1) := by decide +kernel
theorem dX9_meanError_25 : decode cX9_meanError 25 = .ok (.aload_n 0, 1) := by decide +kernel
theorem dX9_meanError_26 : decode cX9_meanError 26 = .ok (.iload_n 3, 1) := by decide +kernel
theorem dX9_meanError_27 : decode cX9_meanError 27 = .ok (.invokevirtual 228, 3) := by decide +kernel
theorem dX9_meanError_30 : decode cX9_meanError 30 = .ok (.ifCond .eq 16, 3) := by decide +kernel
theorem dX9_meanError_33 : decode cX9_meanError 33 = .ok (.aload_n 0, 1) := by decide +kernel
theorem dX9_meanError_34 : decode cX9_meanError 34 = .ok (.iload_n 3, 1) := by decide +kernel
theorem dX9_meanError_35 : decode cX9_meanError 35 = .ok (.bipush 9, 2) := by decide +kernel
theorem dX9_meanError_37 : decode cX9_meanError 37 = .ok (.invokevirtual 273, 3) := by decide +kernel
theorem dX9_meanError_40 : decode cX9_meanError 40 = .ok (.invokestatic 297, 3) := by decide +kernel
theorem dX9_meanError_43 : decode cX9_meanError 43 = .ok (.goto 4, 3) := by decide +kernel
theorem dX9_meanError_47 : decode cX9_meanError 47 = .ok (.iadd, 1) := by decide +kernel
theorem dX9_meanError_48 : decode cX9_meanError 48 = .ok (.istore_n 1, 1) := by decide +kernel
theorem dX9_meanError_49 : decode cX9_meanError 49 = .ok (.iinc 3 1, 3) := by decide +kernel
theorem dX9_meanError_52 : decode cX9_meanError 52 = .ok (.goto (-38), 3) := by decide +kernel
theorem dX9_meanError_55 : decode cX9_meanError 55 = .ok (.iload_n 2, 1) := by decide +kernel
theorem dX9_meanError_56 : decode cX9_meanError 56 = .ok (.ifCond .ne 7, 3) := by decide +kernel
theorem dX9_meanError_63 : decode cX9_meanError 63 = .ok (.iload_n 1, 1) := by decide +kernel
theorem dX9_meanError_64 : decode cX9_meanError 64 = .ok (.i2d, 1) := by decide +kernel
theorem dX9_meanError_65 : decode cX9_meanError 65 = .ok (.iload_n 2, 1) := by decide +kernel
theorem dX9_meanError_66 : decode cX9_meanError 66 = .ok (.i2d, 1) := by decide +kernel
theorem dX9_meanError_67 : decode cX9_meanError 67 = .ok (.ddiv, 1) := by decide +kernel
theorem dX9_meanError_68 : decode cX9_meanError 68 = .ok (.dreturn, 1) := by decide +kernel
theorem dX9_remember_0 : decode cX9_remember 0 = .ok (.aload_n 0, 1) := by decide +kernel
theorem dX9_remember_1 : decode cX9_remember 1 = .ok (.getfield 302, 3) := by decide +kernel
theorem dX9_remember_4 : decode cX9_remember 4 = .ok (.bipush 8, 2) := by decide +kernel
theorem dX9_remember_6 : decode cX9_remember 6 = .ok (.if_icmp .ne 44, 3) := by decide +kernel
theorem dX9_remember_50 : decode cX9_remember 50 = .ok (.aload_n 0, 1) := by decide +kernel
theorem dX9_remember_51 : decode cX9_remember 51 = .ok (.getfield 18, 3) := by decide +kernel
theorem dX9_remember_54 : decode cX9_remember 54 = .ok (.aload_n 0, 1) := by decide +kernel
theorem dX9_remember_55 : decode cX9_remember 55 = .ok (.getfield 29, 3) := by decide +kernel
theorem dX9_remember_58 : decode cX9_remember 58 = .ok (.aload_n 0, 1) := by decide +kernel
theorem dX9_remember_59 : decode cX9_remember 59 = .ok (.getfield 302, 3) := by decide +kernel
theorem dX9_remember_62 : decode cX9_remember 62 = .ok (.aaload, 1) := by decide +kernel
theorem dX9_remember_63 : decode cX9_remember 63 = .ok (.invokestatic 177, 3) := by decide +kernel
theorem dX9_remember_66 : decode cX9_remember 66 = .ok (.aload_n 0, 1) := by decide +kernel
theorem dX9_remember_67 : decode cX9_remember 67 = .ok (.dup, 1) := by decide +kernel
theorem dX9_remember_68 : decode cX9_remember 68 = .ok (.getfield 302, 3) := by decide +kernel
theorem dX9_remember_71 : decode cX9_remember 71 = .ok (.iconst 1, 1) := by decide +kernel
theorem dX9_remember_72 : decode cX9_remember 72 = .ok (.iadd, 1) := by decide +kernel
theorem dX9_remember_73 : decode cX9_remember 73 = .ok (.putfield 302, 3) := by decide +kernel
theorem dX9_remember_76 : decode cX9_remember 76 = .ok (.return_, 1) := by decide +kernel
theorem dX9_propose_0 : decode cX9_propose 0 = .ok (.aload_n 0, 1) := by decide +kernel
theorem dX9_propose_1 : decode cX9_propose 1 = .ok (.iconst 0, 1) := by decide +kernel
theorem dX9_propose_2 : decode cX9_propose 2 = .ok (.putfield 40, 3) := by decide +kernel
theorem dX9_propose_5 : decode cX9_propose 5 = .ok (.aload_n 0, 1) := by decide +kernel
theorem dX9_propose_6 : decode cX9_propose 6 = .ok (.iload_n 1, 1) := by decide +kernel
theorem dX9_propose_7 : decode cX9_propose 7 = .ok (.iconst 0, 1) := by decide +kernel
theorem dX9_propose_8 : decode cX9_propose 8 = .ok (.bipush 99, 2) := by decide +kernel
theorem dX9_propose_10 : decode cX9_propose 10 = .ok (.invokestatic 65, 3) := by decide +kernel
theorem dX9_propose_13 : decode cX9_propose 13 = .ok (.ifCond .ne 7, 3) := by decide +kernel
theorem dX9_propose_16 : decode cX9_propose 16 = .ok (.iconst 1, 1) := by decide +kernel
theorem dX9_propose_17 : decode cX9_propose 17 = .ok (.goto 4, 3) := by decide +kernel
theorem dX9_propose_20 : decode cX9_propose 20 = .ok (.iconst 0, 1) := by decide +kernel
theorem dX9_propose_21 : decode cX9_propose 21 = .ok (.iconst 1, 1) := by decide +kernel
theorem dX9_propose_22 : decode cX9_propose 22 = .ok (.invokevirtual 167, 3) := by decide +kernel
theorem dX9_propose_25 : decode cX9_propose 25 = .ok (.ifCond .ne 23, 3) := by decide +kernel
theorem dX9_propose_28 : decode cX9_propose 28 = .ok (.aload_n 0, 1) := by decide +kernel
theorem dX9_propose_29 : decode cX9_propose 29 = .ok (.aload_n 0, 1) := by decide +kernel
theorem dX9_propose_30 : decode cX9_propose 30 = .ok (.invokevirtual 291, 3) := by decide +kernel
theorem dX9_propose_33 : decode cX9_propose 33 = .ok (.ifCond .ne 7, 3) := by decide +kernel
theorem dX9_propose_40 : decode cX9_propose 40 = .ok (.iconst 0, 1) := by decide +kernel
theorem dX9_propose_41 : decode cX9_propose 41 = .ok (.iconst 2, 1) := by decide +kernel
theorem dX9_propose_42 : decode cX9_propose 42 = .ok (.invokevirtual 167, 3) := by decide +kernel
theorem dX9_propose_45 : decode cX9_propose 45 = .ok (.ifCond .eq 5, 3) := by decide +kernel
theorem dX9_propose_48 : decode cX9_propose 48 = .ok (.iconst 0, 1) := by decide +kernel
theorem dX9_propose_49 : decode cX9_propose 49 = .ok (.ireturn, 1) := by decide +kernel
theorem dX9_propose_50 : decode cX9_propose 50 = .ok (.aload_n 0, 1) := by decide +kernel
theorem dX9_propose_51 : decode cX9_propose 51 = .ok (.invokevirtual 174, 3) := by decide +kernel
theorem dX9_propose_54 : decode cX9_propose 54 = .ok (.aload_n 0, 1) := by decide +kernel
theorem dX9_propose_55 : decode cX9_propose 55 = .ok (.iload_n 1, 1) := by decide +kernel
theorem dX9_propose_56 : decode cX9_propose 56 = .ok (.aload_n 0, 1) := by decide +kernel
theorem dX9_propose_57 : decode cX9_propose 57 = .ok (.iload_n 1, 1) := by decide +kernel
theorem dX9_propose_58 : decode cX9_propose 58 = .ok (.invokevirtual 265, 3) := by decide +kernel
theorem dX9_propose_61 : decode cX9_propose 61 = .ok (.invokevirtual 288, 3) := by decide +kernel
theorem dX9_propose_64 : decode cX9_propose 64 = .ok (.ireturn, 1) := by decide +kernel
theorem dX9_ask_0 : decode cX9_ask 0 = .ok (.aload_n 0, 1) := by decide +kernel
theorem dX9_ask_1 : decode cX9_ask 1 = .ok (.iconst 0, 1) := by decide +kernel
theorem dX9_ask_2 : decode cX9_ask 2 = .ok (.putfield 40, 3) := by decide +kernel
theorem dX9_ask_5 : decode cX9_ask 5 = .ok (.aload_n 0, 1) := by decide +kernel
theorem dX9_ask_6 : decode cX9_ask 6 = .ok (.iload_n 1, 1) := by decide +kernel
theorem dX9_ask_7 : decode cX9_ask 7 = .ok (.invokevirtual 270, 3) := by decide +kernel
theorem dX9_ask_10 : decode cX9_ask 10 = .ok (.ifCond .ne 34, 3) := by decide +kernel
theorem dX9_ask_13 : decode cX9_ask 13 = .ok (.aload_n 0, 1) := by decide +kernel
theorem dX9_ask_14 : decode cX9_ask 14 = .ok (.aload_n 0, 1) := by decide +kernel
theorem dX9_ask_15 : decode cX9_ask 15 = .ok (.iload_n 1, 1) := by decide +kernel
theorem dX9_ask_16 : decode cX9_ask 16 = .ok (.invokevirtual 228, 3) := by decide +kernel
theorem dX9_ask_19 : decode cX9_ask 19 = .ok (.ifCond .eq 13, 3) := by decide +kernel
theorem dX9_ask_22 : decode cX9_ask 22 = .ok (.iload_n 1, 1) := by decide +kernel
theorem dX9_ask_23 : decode cX9_ask 23 = .ok (.aload_n 0, 1) := by decide +kernel
theorem dX9_ask_24 : decode cX9_ask 24 = .ok (.getfield 18, 3) := by decide +kernel
theorem dX9_ask_27 : decode cX9_ask 27 = .ok (.iconst 2, 1) := by decide +kernel
theorem dX9_ask_28 : decode cX9_ask 28 = .ok (.iaload, 1) := by decide +kernel
theorem dX9_ask_29 : decode cX9_ask 29 = .ok (.if_icmp .ne 7, 3) := by decide +kernel
theorem dX9_ask_32 : decode cX9_ask 32 = .ok (.iconst 1, 1) := by decide +kernel
theorem dX9_ask_33 : decode cX9_ask 33 = .ok (.goto 4, 3) := by decide +kernel
theorem dX9_ask_37 : decode cX9_ask 37 = .ok (.iconst 2, 1) := by decide +kernel
theorem dX9_ask_38 : decode cX9_ask 38 = .ok (.invokevirtual 167, 3) := by decide +kernel
theorem dX9_ask_41 : decode cX9_ask 41 = .ok (.ifCond .eq 5, 3) := by decide +kernel
theorem dX9_ask_44 : decode cX9_ask 44 = .ok (.iconst 0, 1) := by decide +kernel
theorem dX9_ask_45 : decode cX9_ask 45 = .ok (.ireturn, 1) := by decide +kernel
theorem dX9_pass_0 : decode cX9_pass 0 = .ok (.aload_n 0, 1) := by decide +kernel
theorem dX9_pass_1 : decode cX9_pass 1 = .ok (.iconst 0, 1) := by decide +kernel
theorem dX9_pass_2 : decode cX9_pass 2 = .ok (.putfield 40, 3) := by decide +kernel
theorem dX9_pass_5 : decode cX9_pass 5 = .ok (.aload_n 0, 1) := by decide +kernel
theorem dX9_pass_6 : decode cX9_pass 6 = .ok (.iload_n 1, 1) := by decide +kernel
theorem dX9_pass_7 : decode cX9_pass 7 = .ok (.iconst 1, 1) := by decide +kernel
theorem dX9_pass_8 : decode cX9_pass 8 = .ok (.bipush 50, 2) := by decide +kernel
theorem dX9_pass_10 : decode cX9_pass 10 = .ok (.invokestatic 65, 3) := by decide +kernel
theorem dX9_pass_13 : decode cX9_pass 13 = .ok (.ifCond .ne 7, 3) := by decide +kernel
theorem dX9_pass_16 : decode cX9_pass 16 = .ok (.iconst 1, 1) := by decide +kernel
theorem dX9_pass_17 : decode cX9_pass 17 = .ok (.goto 4, 3) := by decide +kernel
theorem dX9_pass_20 : decode cX9_pass 20 = .ok (.iconst 0, 1) := by decide +kernel
theorem dX9_pass_21 : decode cX9_pass 21 = .ok (.iconst 1, 1) := by decide +kernel
theorem dX9_pass_22 : decode cX9_pass 22 = .ok (.invokevirtual 167, 3) := by decide +kernel
theorem dX9_pass_25 : decode cX9_pass 25 = .ok (.ifCond .eq 5, 3) := by decide +kernel
theorem dX9_pass_28 : decode cX9_pass 28 = .ok (.iconst 0, 1) := by decide +kernel
theorem dX9_pass_29 : decode cX9_pass 29 = .ok (.ireturn, 1) := by decide +kernel
theorem dX9_pass_30 : decode cX9_pass 30 = .ok (.aload_n 0, 1) := by decide +kernel
theorem dX9_pass_31 : decode cX9_pass 31 = .ok (.invokevirtual 174, 3) := by decide +kernel
theorem dX9_pass_34 : decode cX9_pass 34 = .ok (.aload_n 0, 1) := by decide +kernel
theorem dX9_pass_35 : decode cX9_pass 35 = .ok (.getfield 18, 3) := by decide +kernel
theorem dX9_pass_38 : decode cX9_pass 38 = .ok (.bipush 9, 2) := by decide +kernel
theorem dX9_pass_40 : decode cX9_pass 40 = .ok (.iaload, 1) := by decide +kernel
theorem dX9_pass_41 : decode cX9_pass 41 = .ok (.istore_n 2, 1) := by decide +kernel
theorem dX9_pass_42 : decode cX9_pass 42 = .ok (.iconst 0, 1) := by decide +kernel
theorem dX9_pass_43 : decode cX9_pass 43 = .ok (.istore_n 3, 1) := by decide +kernel
theorem dX9_pass_44 : decode cX9_pass 44 = .ok (.iload_n 3, 1) := by decide +kernel
theorem dX9_pass_45 : decode cX9_pass 45 = .ok (.iload_n 1, 1) := by decide +kernel
theorem dX9_pass_46 : decode cX9_pass 46 = .ok (.if_icmp .ge 13, 3) := by decide +kernel
theorem dX9_pass_49 : decode cX9_pass 49 = .ok (.aload_n 0, 1) := by decide +kernel
theorem dX9_pass_50 : decode cX9_pass 50 = .ok (.invokevirtual 259, 3) := by decide +kernel
theorem dX9_pass_53 : decode cX9_pass 53 = .ok (.iinc 3 1, 3) := by decide +kernel
theorem dX9_pass_56 : decode cX9_pass 56 = .ok (.goto (-12), 3) := by decide +kernel
theorem dX9_pass_59 : decode cX9_pass 59 = .ok (.aload_n 0, 1) := by decide +kernel
theorem dX9_pass_60 : decode cX9_pass 60 = .ok (.getfield 18, 3) := by decide +kernel
theorem dX9_pass_63 : decode cX9_pass 63 = .ok (.bipush 9, 2) := by decide +kernel
theorem dX9_pass_65 : decode cX9_pass 65 = .ok (.iaload, 1) := by decide +kernel
theorem dX9_pass_66 : decode cX9_pass 66 = .ok (.iload_n 2, 1) := by decide +kernel
theorem dX9_pass_67 : decode cX9_pass 67 = .ok (.isub, 1) := by decide +kernel
theorem dX9_pass_68 : decode cX9_pass 68 = .ok (.ireturn, 1) := by decide +kernel
theorem dX9_power_0 : decode cX9_power 0 = .ok (.aload_n 0, 1) := by decide +kernel
theorem dX9_power_1 : decode cX9_power 1 = .ok (.iconst 0, 1) := by decide +kernel
theorem dX9_power_2 : decode cX9_power 2 = .ok (.putfield 40, 3) := by decide +kernel
theorem dX9_power_5 : decode cX9_power 5 = .ok (.aload_n 0, 1) := by decide +kernel
theorem dX9_power_6 : decode cX9_power 6 = .ok (.iload_n 1, 1) := by decide +kernel
theorem dX9_power_7 : decode cX9_power 7 = .ok (.invokevirtual 270, 3) := by decide +kernel
theorem dX9_power_10 : decode cX9_power 10 = .ok (.ifCond .eq 5, 3) := by decide +kernel
theorem dX9_power_13 : decode cX9_power 13 = .ok (.iconst 0, 1) := by decide +kernel
theorem dX9_power_14 : decode cX9_power 14 = .ok (.ireturn, 1) := by decide +kernel
theorem dX9_power_15 : decode cX9_power 15 = .ok (.aload_n 0, 1) := by decide +kernel
theorem dX9_power_16 : decode cX9_power 16 = .ok (.invokevirtual 174, 3) := by decide +kernel
theorem dX9_power_19 : decode cX9_power 19 = .ok (.aload_n 0, 1) := by decide +kernel
theorem dX9_power_20 : decode cX9_power 20 = .ok (.iload_n 1, 1) := by decide +kernel
theorem dX9_power_21 : decode cX9_power 21 = .ok (.invokevirtual 228, 3) := by decide +kernel
theorem dX9_power_24 : decode cX9_power 24 = .ok (.istore_n 3, 1) := by decide +kernel
theorem dX9_power_25 : decode cX9_power 25 = .ok (.aload_n 0, 1) := by decide +kernel
theorem dX9_power_26 : decode cX9_power 26 = .ok (.iload_n 1, 1) := by decide +kernel
theorem dX9_power_27 : decode cX9_power 27 = .ok (.iconst 0, 1) := by decide +kernel
theorem dX9_power_28 : decode cX9_power 28 = .ok (.iload_n 2, 1) := by decide +kernel
theorem dX9_power_29 : decode cX9_power 29 = .ok (.ifCond .eq 7, 3) := by decide +kernel
theorem dX9_power_32 : decode cX9_power 32 = .ok (.iconst 1, 1) := by decide +kernel
theorem dX9_power_33 : decode cX9_power 33 = .ok (.goto 4, 3) := by decide +kernel
theorem dX9_power_36 : decode cX9_power 36 = .ok (.iconst 0, 1) := by decide +kernel
theorem dX9_power_37 : decode cX9_power 37 = .ok (.invokevirtual 217, 3) := by decide +kernel
theorem dX9_power_40 : decode cX9_power 40 = .ok (.iload_n 2, 1) := by decide +kernel
theorem dX9_power_41 : decode cX9_power 41 = .ok (.ifCond .ne 8, 3) := by decide +kernel
theorem dX9_power_44 : decode cX9_power 44 = .ok (.aload_n 0, 1) := by decide +kernel
theorem dX9_power_45 : decode cX9_power 45 = .ok (.iload_n 1, 1) := by decide +kernel
theorem dX9_power_46 : decode cX9_power 46 = .ok (.invokevirtual 237, 3) := by decide +kernel
theorem dX9_power_49 : decode cX9_power 49 = .ok (.iload_n 3, 1) := by decide +kernel
theorem dX9_power_50 : decode cX9_power 50 = .ok (.ireturn, 1) := by decide +kernel
theorem dX9_cut_0 : decode cX9_cut 0 = .ok (.aload_n 0, 1) := by decide +kernel
theorem dX9_cut_1 : decode cX9_cut 1 = .ok (.iconst 0, 1) := by decide +kernel
theorem dX9_cut_2 : decode cX9_cut 2 = .ok (.putfield 40, 3) := by decide +kernel
theorem dX9_cut_5 : decode cX9_cut 5 = .ok (.aload_n 0, 1) := by decide +kernel
theorem dX9_cut_6 : decode cX9_cut 6 = .ok (.iload_n 1, 1) := by decide +kernel
theorem dX9_cut_7 : decode cX9_cut 7 = .ok (.invokevirtual 270, 3) := by decide +kernel
theorem dX9_cut_10 : decode cX9_cut 10 = .ok (.ifCond .ne 37, 3) := by decide +kernel
theorem dX9_cut_13 : decode cX9_cut 13 = .ok (.aload_n 0, 1) := by decide +kernel
theorem dX9_cut_14 : decode cX9_cut 14 = .ok (.iload_n 2, 1) := by decide +kernel
theorem dX9_cut_15 : decode cX9_cut 15 = .ok (.invokevirtual 270, 3) := by decide +kernel
theorem dX9_cut_18 : decode cX9_cut 18 = .ok (.ifCond .ne 29, 3) := by decide +kernel
theorem dX9_cut_21 : decode cX9_cut 21 = .ok (.aload_n 0, 1) := by decide +kernel
theorem dX9_cut_22 : decode cX9_cut 22 = .ok (.aload_n 0, 1) := by decide +kernel
theorem dX9_cut_23 : decode cX9_cut 23 = .ok (.getfield 18, 3) := by decide +kernel
theorem dX9_cut_26 : decode cX9_cut 26 = .ok (.iload_n 1, 1) := by decide +kernel
theorem dX9_cut_27 : decode cX9_cut 27 = .ok (.iload_n 2, 1) := by decide +kernel
theorem dX9_cut_28 : decode cX9_cut 28 = .ok (.invokestatic 145, 3) := by decide +kernel
theorem dX9_cut_31 : decode cX9_cut 31 = .ok (.iaload, 1) := by decide +kernel
theorem dX9_cut_32 : decode cX9_cut 32 = .ok (.ifCond .ne 7, 3) := by decide +kernel
theorem dX9_cut_35 : decode cX9_cut 35 = .ok (.iconst 1, 1) := by decide +kernel
theorem dX9_cut_36 : decode cX9_cut 36 = .ok (.goto 4, 3) := by decide +kernel
theorem dX9_cut_40 : decode cX9_cut 40 = .ok (.iconst 2, 1) := by decide +kernel
theorem dX9_cut_41 : decode cX9_cut 41 = .ok (.invokevirtual 167, 3) := by decide +kernel
theorem dX9_cut_44 : decode cX9_cut 44 = .ok (.ifCond .eq 5, 3) := by decide +kernel
theorem dX9_cut_47 : decode cX9_cut 47 = .ok (.iconst 0, 1) := by decide +kernel
theorem dX9_cut_48 : decode cX9_cut 48 = .ok (.ireturn, 1) := by decide +kernel
theorem dX9_lead_0 : decode cX9_lead 0 = .ok (.aload_n 0, 1) := by decide +kernel
theorem dX9_lead_1 : decode cX9_lead 1 = .ok (.iconst 0, 1) := by decide +kernel
theorem dX9_lead_2 : decode cX9_lead 2 = .ok (.putfield 40, 3) := by decide +kernel
theorem dX9_lead_5 : decode cX9_lead 5 = .ok (.aload_n 0, 1) := by decide +kernel
theorem dX9_lead_6 : decode cX9_lead 6 = .ok (.iload_n 1, 1) := by decide +kernel
theorem dX9_lead_7 : decode cX9_lead 7 = .ok (.invokevirtual 270, 3) := by decide +kernel
theorem dX9_lead_10 : decode cX9_lead 10 = .ok (.ifCond .eq 5, 3) := by decide +kernel
theorem dX9_lead_13 : decode cX9_lead 13 = .ok (.iconst 0, 1) := by decide +kernel
theorem dX9_lead_14 : decode cX9_lead 14 = .ok (.ireturn, 1) := by decide +kernel
theorem dX9_lead_15 : decode cX9_lead 15 = .ok (.aload_n 0, 1) := by decide +kernel
theorem dX9_lead_16 : decode cX9_lead 16 = .ok (.invokevirtual 174, 3) := by decide +kernel
theorem dX9_lead_19 : decode cX9_lead 19 = .ok (.aload_n 0, 1) := by decide +kernel
theorem dX9_lead_20 : decode cX9_lead 20 = .ok (.getfield 18, 3) := by decide +kernel
theorem dX9_lead_23 : decode cX9_lead 23 = .ok (.iconst 2, 1) := by decide +kernel
theorem dX9_lead_24 : decode cX9_lead 24 = .ok (.iaload, 1) := by decide +kernel
theorem dX9_lead_25 : decode cX9_lead 25 = .ok (.istore_n 2, 1) := by decide +kernel
theorem dX9_lead_26 : decode cX9_lead 26 = .ok (.aload_n 0, 1) := by decide +kernel
theorem dX9_lead_27 : decode cX9_lead 27 = .ok (.getfield 18, 3) := by decide +kernel
theorem dX9_lead_30 : decode cX9_lead 30 = .ok (.iconst 2, 1) := by decide +kernel
theorem dX9_lead_31 : decode cX9_lead 31 = .ok (.iload_n 1, 1) := by decide +kernel
theorem dX9_lead_32 : decode cX9_lead 32 = .ok (.iastore, 1) := by decide +kernel
theorem dX9_lead_33 : decode cX9_lead 33 = .ok (.iconst 0, 1) := by decide +kernel
theorem dX9_lead_34 : decode cX9_lead 34 = .ok (.istore_n 3, 1) := by decide +kernel
theorem dX9_lead_35 : decode cX9_lead 35 = .ok (.iload_n 3, 1) := by decide +kernel
theorem dX9_lead_36 : decode cX9_lead 36 = .ok (.aload_n 0, 1) := by decide +kernel
theorem dX9_lead_37 : decode cX9_lead 37 = .ok (.getfield 18, 3) := by decide +kernel
theorem dX9_lead_40 : decode cX9_lead 40 = .ok (.iconst 0, 1) := by decide +kernel
theorem dX9_lead_41 : decode cX9_lead 41 = .ok (.iaload, 1) := by decide +kernel
theorem dX9_lead_42 : decode cX9_lead 42 = .ok (.if_icmp .ge 16, 3) := by decide +kernel
theorem dX9_lead_45 : decode cX9_lead 45 = .ok (.aload_n 0, 1) := by decide +kernel
theorem dX9_lead_46 : decode cX9_lead 46 = .ok (.iload_n 3, 1) := by decide +kernel
theorem dX9_lead_47 : decode cX9_lead 47 = .ok (.iconst 3, 1) := by decide +kernel
theorem dX9_lead_48 : decode cX9_lead 48 = .ok (.iconst 0, 1) := by decide +kernel
theorem dX9_lead_49 : decode cX9_lead 49 = .ok (.invokevirtual 217, 3) := by decide +kernel
theorem dX9_lead_52 : decode cX9_lead 52 = .ok (.iinc 3 1, 3) := by decide +kernel
theorem dX9_lead_55 : decode cX9_lead 55 = .ok (.goto (-20), 3) := by decide +kernel
theorem dX9_lead_58 : decode cX9_lead 58 = .ok (.iload_n 2, 1) := by decide +kernel
theorem dX9_lead_59 : decode cX9_lead 59 = .ok (.ireturn, 1) := by decide +kernel
theorem dX9_undo_0 : decode cX9_undo 0 = .ok (.aload_n 0, 1) := by decide +kernel
theorem dX9_undo_1 : decode cX9_undo 1 = .ok (.iconst 0, 1) := by decide +kernel
theorem dX9_undo_2 : decode cX9_undo 2 = .ok (.putfield 40, 3) := by decide +kernel
theorem dX9_undo_5 : decode cX9_undo 5 = .ok (.aload_n 0, 1) := by decide +kernel
theorem dX9_undo_6 : decode cX9_undo 6 = .ok (.getfield 302, 3) := by decide +kernel
theorem dX9_undo_9 : decode cX9_undo 9 = .ok (.ifCond .ne 5, 3) := by decide +kernel
theorem dX9_undo_12 : decode cX9_undo 12 = .ok (.iconst (-1), 1) := by decide +kernel
theorem dX9_undo_13 : decode cX9_undo 13 = .ok (.ireturn, 1) := by decide +kernel
theorem dX9_checksum_0 : decode cX9_checksum 0 = .ok (.aload_n 0, 1) := by decide +kernel
theorem dX9_checksum_1 : decode cX9_checksum 1 = .ok (.iconst 0, 1) := by decide +kernel
theorem dX9_checksum_2 : decode cX9_checksum 2 = .ok (.putfield 40, 3) := by decide +kernel
theorem dX9_checksum_5 : decode cX9_checksum 5 = .ok (.lconst 0, 1) := by decide +kernel
theorem dX9_checksum_6 : decode cX9_checksum 6 = .ok (.lstore_n 1, 1) := by decide +kernel
theorem dX9_checksum_7 : decode cX9_checksum 7 = .ok (.iconst 0, 1) := by decide +kernel
theorem dX9_checksum_8 : decode cX9_checksum 8 = .ok (.istore_n 3, 1) := by decide +kernel
theorem dX9_checksum_9 : decode cX9_checksum 9 = .ok (.iload_n 3, 1) := by decide +kernel
theorem dX9_checksum_10 : decode cX9_checksum 10 = .ok (.bipush 13, 2) := by decide +kernel
theorem dX9_checksum_12 : decode cX9_checksum 12 = .ok (.if_icmp .ge 22, 3) := by decide +kernel
theorem dX9_checksum_15 : decode cX9_checksum 15 = .ok (.ldc2_w 305, 3) := by decide +kernel
theorem dX9_checksum_18 : decode cX9_checksum 18 = .ok (.lload_n 1, 1) := by decide +kernel
theorem dX9_checksum_19 : decode cX9_checksum 19 = .ok (.lmul, 1) := by decide +kernel
theorem dX9_checksum_20 : decode cX9_checksum 20 = .ok (.aload_n 0, 1) := by decide +kernel
theorem dX9_checksum_21 : decode cX9_checksum 21 = .ok (.iload_n 3, 1) := by decide +kernel
theorem dX9_checksum_22 : decode cX9_checksum 22 = .ok (.invokevirtual 267, 3) := by decide +kernel
theorem dX9_checksum_25 : decode cX9_checksum 25 = .ok (.i2l, 1) := by decide +kernel
theorem dX9_checksum_26 : decode cX9_checksum 26 = .ok (.ladd, 1) := by decide +kernel
theorem dX9_checksum_27 : decode cX9_checksum 27 = .ok (.lstore_n 1, 1) := by decide +kernel
theorem dX9_checksum_28 : decode cX9_checksum 28 = .ok (.iinc 3 1, 3) := by decide +kernel
theorem dX9_checksum_31 : decode cX9_checksum 31 = .ok (.goto (-22), 3) := by decide +kernel
theorem dX9_checksum_34 : decode cX9_checksum 34 = .ok (.iconst 0, 1) := by decide +kernel
theorem dX9_checksum_35 : decode cX9_checksum 35 = .ok (.istore_n 3, 1) := by decide +kernel
theorem dX9_checksum_36 : decode cX9_checksum 36 = .ok (.iload_n 3, 1) := by decide +kernel
theorem dX9_checksum_37 : decode cX9_checksum 37 = .ok (.aload_n 0, 1) := by decide +kernel
theorem dX9_checksum_38 : decode cX9_checksum 38 = .ok (.getfield 18, 3) := by decide +kernel
theorem dX9_checksum_41 : decode cX9_checksum 41 = .ok (.iconst 0, 1) := by decide +kernel
theorem dX9_checksum_42 : decode cX9_checksum 42 = .ok (.iaload, 1) := by decide +kernel
theorem dX9_checksum_43 : decode cX9_checksum 43 = .ok (.if_icmp .ge 40, 3) := by decide +kernel
theorem dX9_checksum_46 : decode cX9_checksum 46 = .ok (.iconst 0, 1) := by decide +kernel
theorem dX9_checksum_47 : decode cX9_checksum 47 = .ok (.istore 4, 2) := by decide +kernel
theorem dX9_checksum_49 : decode cX9_checksum 49 = .ok (.iload 4, 2) := by decide +kernel
theorem dX9_checksum_51 : decode cX9_checksum 51 = .ok (.bipush 10, 2) := by decide +kernel
theorem dX9_checksum_53 : decode cX9_checksum 53 = .ok (.if_icmp .ge 24, 3) := by decide +kernel
theorem dX9_checksum_56 : decode cX9_checksum 56 = .ok (.ldc2_w 305, 3) := by decide +kernel
theorem dX9_checksum_59 : decode cX9_checksum 59 = .ok (.lload_n 1, 1) := by decide +kernel
theorem dX9_checksum_60 : decode cX9_checksum 60 = .ok (.lmul, 1) := by decide +kernel
theorem dX9_checksum_61 : decode cX9_checksum 61 = .ok (.aload_n 0, 1) := by decide +kernel
theorem dX9_checksum_62 : decode cX9_checksum 62 = .ok (.iload_n 3, 1) := by decide +kernel
theorem dX9_checksum_63 : decode cX9_checksum 63 = .ok (.iload 4, 2) := by decide +kernel
theorem dX9_checksum_65 : decode cX9_checksum 65 = .ok (.invokevirtual 273, 3) := by decide +kernel
theorem dX9_checksum_68 : decode cX9_checksum 68 = .ok (.i2l, 1) := by decide +kernel
theorem dX9_checksum_69 : decode cX9_checksum 69 = .ok (.ladd, 1) := by decide +kernel
theorem dX9_checksum_70 : decode cX9_checksum 70 = .ok (.lstore_n 1, 1) := by decide +kernel
theorem dX9_checksum_71 : decode cX9_checksum 71 = .ok (.iinc 4 1, 3) := by decide +kernel
theorem dX9_checksum_74 : decode cX9_checksum 74 = .ok (.goto (-25), 3) := by decide +kernel
theorem dX9_checksum_77 : decode cX9_checksum 77 = .ok (.iinc 3 1, 3) := by decide +kernel
theorem dX9_checksum_80 : decode cX9_checksum 80 = .ok (.goto (-44), 3) := by decide +kernel
theorem dX9_checksum_83 : decode cX9_checksum 83 = .ok (.aload_n 0, 1) := by decide +kernel
theorem dX9_checksum_84 : decode cX9_checksum 84 = .ok (.getfield 18, 3) := by decide +kernel
theorem dX9_checksum_87 : decode cX9_checksum 87 = .ok (.iconst 1, 1) := by decide +kernel
theorem dX9_checksum_88 : decode cX9_checksum 88 = .ok (.iaload, 1) := by decide +kernel
theorem dX9_checksum_89 : decode cX9_checksum 89 = .ok (.iconst 1, 1) := by decide +kernel
theorem dX9_checksum_90 : decode cX9_checksum 90 = .ok (.iadd, 1) := by decide +kernel
theorem dX9_checksum_91 : decode cX9_checksum 91 = .ok (.istore_n 3, 1) := by decide +kernel
theorem dX9_checksum_92 : decode cX9_checksum 92 = .ok (.iload_n 3, 1) := by decide +kernel
theorem dX9_checksum_93 : decode cX9_checksum 93 = .ok (.aload_n 0, 1) := by decide +kernel
theorem dX9_checksum_94 : decode cX9_checksum 94 = .ok (.getfield 18, 3) := by decide +kernel
theorem dX9_checksum_97 : decode cX9_checksum 97 = .ok (.iconst 1, 1) := by decide +kernel
theorem dX9_checksum_98 : decode cX9_checksum 98 = .ok (.iaload, 1) := by decide +kernel
theorem dX9_checksum_99 : decode cX9_checksum 99 = .ok (.bipush 9, 2) := by decide +kernel
theorem dX9_checksum_101 : decode cX9_checksum 101 = .ok (.iadd, 1) := by decide +kernel
theorem dX9_checksum_102 : decode cX9_checksum 102 = .ok (.if_icmp .gt 85, 3) := by decide +kernel
theorem dX9_checksum_105 : decode cX9_checksum 105 = .ok (.iconst 0, 1) := by decide +kernel
theorem dX9_checksum_106 : decode cX9_checksum 106 = .ok (.istore 4, 2) := by decide +kernel
theorem dX9_checksum_108 : decode cX9_checksum 108 = .ok (.iload 4, 2) := by decide +kernel
theorem dX9_checksum_110 : decode cX9_checksum 110 = .ok (.aload_n 0, 1) := by decide +kernel
theorem dX9_checksum_111 : decode cX9_checksum 111 = .ok (.getfield 18, 3) := by decide +kernel
theorem dX9_checksum_114 : decode cX9_checksum 114 = .ok (.iconst 3, 1) := by decide +kernel
theorem dX9_checksum_115 : decode cX9_checksum 115 = .ok (.iaload, 1) := by decide +kernel
theorem dX9_checksum_116 : decode cX9_checksum 116 = .ok (.if_icmp .ge 65, 3) := by decide +kernel
theorem dX9_checksum_181 : decode cX9_checksum 181 = .ok (.iinc 3 1, 3) := by decide +kernel
theorem dX9_checksum_184 : decode cX9_checksum 184 = .ok (.goto (-92), 3) := by decide +kernel
theorem dX9_checksum_187 : decode cX9_checksum 187 = .ok (.aload_n 0, 1) := by decide +kernel
theorem dX9_checksum_188 : decode cX9_checksum 188 = .ok (.getfield 18, 3) := by decide +kernel
theorem dX9_checksum_191 : decode cX9_checksum 191 = .ok (.bipush 6, 2) := by decide +kernel
theorem dX9_checksum_193 : decode cX9_checksum 193 = .ok (.iaload, 1) := by decide +kernel
theorem dX9_checksum_194 : decode cX9_checksum 194 = .ok (.ifCond .ne 5, 3) := by decide +kernel
theorem dX9_checksum_197 : decode cX9_checksum 197 = .ok (.lload_n 1, 1) := by decide +kernel
theorem dX9_checksum_198 : decode cX9_checksum 198 = .ok (.lreturn, 1) := by decide +kernel
theorem dJ7_fill_53178_0 : decode cJ7_fill_53178 0 = .ok (.iconst 0, 1) := by decide +kernel
theorem dJ7_fill_53178_1 : decode cJ7_fill_53178 1 = .ok (.istore_n 2, 1) := by decide +kernel
theorem dJ7_fill_53178_2 : decode cJ7_fill_53178 2 = .ok (.aload_n 0, 1) := by decide +kernel
theorem dJ7_fill_53178_3 : decode cJ7_fill_53178 3 = .ok (.arraylength, 1) := by decide +kernel
theorem dJ7_fill_53178_4 : decode cJ7_fill_53178 4 = .ok (.istore_n 3, 1) := by decide +kernel
theorem dJ7_fill_53178_5 : decode cJ7_fill_53178 5 = .ok (.iload_n 2, 1) := by decide +kernel
theorem dJ7_fill_53178_6 : decode cJ7_fill_53178 6 = .ok (.iload_n 3, 1) := by decide +kernel
theorem dJ7_fill_53178_7 : decode cJ7_fill_53178 7 = .ok (.if_icmp .ge 13, 3) := by decide +kernel
theorem dJ7_fill_53178_10 : decode cJ7_fill_53178 10 = .ok (.aload_n 0, 1) := by decide +kernel
theorem dJ7_fill_53178_11 : decode cJ7_fill_53178 11 = .ok (.iload_n 2, 1) := by decide +kernel
theorem dJ7_fill_53178_12 : decode cJ7_fill_53178 12 = .ok (.iload_n 1, 1) := by decide +kernel
theorem dJ7_fill_53178_13 : decode cJ7_fill_53178 13 = .ok (.iastore, 1) := by decide +kernel
theorem dJ7_fill_53178_14 : decode cJ7_fill_53178 14 = .ok (.iinc 2 1, 3) := by decide +kernel
theorem dJ7_fill_53178_17 : decode cJ7_fill_53178 17 = .ok (.goto (-12), 3) := by decide +kernel
theorem dJ7_fill_53178_20 : decode cJ7_fill_53178 20 = .ok (.return_, 1) := by decide +kernel
theorem dL_load_0 : decode cL_load 0 = .ok (.aload_n 2, 1) := by decide +kernel
theorem dL_load_1 : decode cL_load 1 = .ok (.iconst 0, 1) := by decide +kernel
theorem dL_load_2 : decode cL_load 2 = .ok (.aload_n 0, 1) := by decide +kernel
theorem dL_load_3 : decode cL_load 3 = .ok (.iload_n 1, 1) := by decide +kernel
theorem dL_load_4 : decode cL_load 4 = .ok (.invokevirtual 7, 3) := by decide +kernel
theorem dL_load_7 : decode cL_load 7 = .ok (.i2l, 1) := by decide +kernel
theorem dL_load_8 : decode cL_load 8 = .ok (.lastore, 1) := by decide +kernel
theorem dL_load_9 : decode cL_load 9 = .ok (.goto 6, 3) := by decide +kernel
theorem dL_load_12 : decode cL_load 12 = .ok (.astore_n 3, 1) := by decide +kernel
theorem dL_load_13 : decode cL_load 13 = .ok (.iconst 1, 1) := by decide +kernel
theorem dL_load_14 : decode cL_load 14 = .ok (.ireturn, 1) := by decide +kernel
theorem dL_load_15 : decode cL_load 15 = .ok (.iconst 0, 1) := by decide +kernel
theorem dL_load_16 : decode cL_load 16 = .ok (.ireturn, 1) := by decide +kernel
theorem dL_state_0 : decode cL_state 0 = .ok (.aload_n 2, 1) := by decide +kernel
theorem dL_state_1 : decode cL_state 1 = .ok (.iconst 0, 1) := by decide +kernel
theorem dL_state_2 : decode cL_state 2 = .ok (.aload_n 0, 1) := by decide +kernel
theorem dL_state_3 : decode cL_state 3 = .ok (.iload_n 1, 1) := by decide +kernel
theorem dL_state_4 : decode cL_state 4 = .ok (.invokevirtual 15, 3) := by decide +kernel
theorem dL_state_7 : decode cL_state 7 = .ok (.i2l, 1) := by decide +kernel
theorem dL_state_8 : decode cL_state 8 = .ok (.lastore, 1) := by decide +kernel
theorem dL_state_9 : decode cL_state 9 = .ok (.goto 6, 3) := by decide +kernel
theorem dL_state_12 : decode cL_state 12 = .ok (.astore_n 3, 1) := by decide +kernel
theorem dL_state_13 : decode cL_state 13 = .ok (.iconst 1, 1) := by decide +kernel
theorem dL_state_14 : decode cL_state 14 = .ok (.ireturn, 1) := by decide +kernel
theorem dL_state_15 : decode cL_state 15 = .ok (.iconst 0, 1) := by decide +kernel
theorem dL_state_16 : decode cL_state 16 = .ok (.ireturn, 1) := by decide +kernel
theorem dL_player_0 : decode cL_player 0 = .ok (.aload_n 3, 1) := by decide +kernel
theorem dL_player_1 : decode cL_player 1 = .ok (.iconst 0, 1) := by decide +kernel
theorem dL_player_2 : decode cL_player 2 = .ok (.aload_n 0, 1) := by decide +kernel
theorem dL_player_3 : decode cL_player 3 = .ok (.iload_n 1, 1) := by decide +kernel
theorem dL_player_4 : decode cL_player 4 = .ok (.iload_n 2, 1) := by decide +kernel
theorem dL_player_5 : decode cL_player 5 = .ok (.invokevirtual 18, 3) := by decide +kernel
theorem dL_player_8 : decode cL_player 8 = .ok (.i2l, 1) := by decide +kernel
theorem dL_player_9 : decode cL_player 9 = .ok (.lastore, 1) := by decide +kernel
theorem dL_player_10 : decode cL_player 10 = .ok (.goto 11, 3) := by decide +kernel
theorem dL_player_13 : decode cL_player 13 = .ok (.astore 4, 2) := by decide +kernel
theorem dL_player_15 : decode cL_player 15 = .ok (.iconst 1, 1) := by decide +kernel
theorem dL_player_16 : decode cL_player 16 = .ok (.ireturn, 1) := by decide +kernel
theorem dL_player_17 : decode cL_player 17 = .ok (.astore 4, 2) := by decide +kernel
theorem dL_player_19 : decode cL_player 19 = .ok (.iconst 2, 1) := by decide +kernel
theorem dL_player_20 : decode cL_player 20 = .ok (.ireturn, 1) := by decide +kernel
theorem dL_player_21 : decode cL_player 21 = .ok (.iconst 0, 1) := by decide +kernel
theorem dL_player_22 : decode cL_player 22 = .ok (.ireturn, 1) := by decide +kernel
theorem dL_link_0 : decode cL_link 0 = .ok (.aload_n 3, 1) := by decide +kernel
theorem dL_link_1 : decode cL_link 1 = .ok (.iconst 0, 1) := by decide +kernel
theorem dL_link_2 : decode cL_link 2 = .ok (.aload_n 0, 1) := by decide +kernel
theorem dL_link_3 : decode cL_link 3 = .ok (.iload_n 1, 1) := by decide +kernel
theorem dL_link_4 : decode cL_link 4 = .ok (.iload_n 2, 1) := by decide +kernel
theorem dL_link_5 : decode cL_link 5 = .ok (.invokevirtual 24, 3) := by decide +kernel
theorem dL_link_8 : decode cL_link 8 = .ok (.i2l, 1) := by decide +kernel
theorem dL_link_9 : decode cL_link 9 = .ok (.lastore, 1) := by decide +kernel
theorem dL_link_10 : decode cL_link 10 = .ok (.goto 7, 3) := by decide +kernel
theorem dL_link_13 : decode cL_link 13 = .ok (.astore 4, 2) := by decide +kernel
theorem dL_link_15 : decode cL_link 15 = .ok (.iconst 1, 1) := by decide +kernel
theorem dL_link_16 : decode cL_link 16 = .ok (.ireturn, 1) := by decide +kernel
theorem dL_link_17 : decode cL_link 17 = .ok (.iconst 0, 1) := by decide +kernel
theorem dL_link_18 : decode cL_link 18 = .ok (.ireturn, 1) := by decide +kernel
theorem dL_message_0 : decode cL_message 0 = .ok (.aload_n 3, 1) := by decide +kernel
theorem dL_message_1 : decode cL_message 1 = .ok (.iconst 0, 1) := by decide +kernel
theorem dL_message_2 : decode cL_message 2 = .ok (.aload_n 0, 1) := by decide +kernel
theorem dL_message_3 : decode cL_message 3 = .ok (.iload_n 1, 1) := by decide +kernel
theorem dL_message_4 : decode cL_message 4 = .ok (.iload_n 2, 1) := by decide +kernel
theorem dL_message_5 : decode cL_message 5 = .ok (.invokevirtual 27, 3) := by decide +kernel
theorem dL_message_13 : decode cL_message 13 = .ok (.astore 4, 2) := by decide +kernel
theorem dL_message_15 : decode cL_message 15 = .ok (.iconst 1, 1) := by decide +kernel
theorem dL_message_16 : decode cL_message 16 = .ok (.ireturn, 1) := by decide +kernel
theorem dL_proposal_0 : decode cL_proposal 0 = .ok (.aload_n 2, 1) := by decide +kernel
theorem dL_proposal_1 : decode cL_proposal 1 = .ok (.iconst 0, 1) := by decide +kernel
theorem dL_proposal_2 : decode cL_proposal 2 = .ok (.aload_n 0, 1) := by decide +kernel
theorem dL_proposal_3 : decode cL_proposal 3 = .ok (.iload_n 1, 1) := by decide +kernel
theorem dL_proposal_4 : decode cL_proposal 4 = .ok (.invokevirtual 32, 3) := by decide +kernel
theorem dL_proposal_12 : decode cL_proposal 12 = .ok (.astore_n 3, 1) := by decide +kernel
theorem dL_proposal_13 : decode cL_proposal 13 = .ok (.iconst 1, 1) := by decide +kernel
theorem dL_proposal_14 : decode cL_proposal 14 = .ok (.ireturn, 1) := by decide +kernel
theorem dL_foretold_0 : decode cL_foretold 0 = .ok (.aload_n 2, 1) := by decide +kernel
theorem dL_foretold_1 : decode cL_foretold 1 = .ok (.iconst 0, 1) := by decide +kernel
theorem dL_foretold_2 : decode cL_foretold 2 = .ok (.aload_n 0, 1) := by decide +kernel
theorem dL_foretold_3 : decode cL_foretold 3 = .ok (.iload_n 1, 1) := by decide +kernel
theorem dL_foretold_4 : decode cL_foretold 4 = .ok (.invokevirtual 35, 3) := by decide +kernel
theorem dL_foretold_7 : decode cL_foretold 7 = .ok (.i2l, 1) := by decide +kernel
theorem dL_foretold_8 : decode cL_foretold 8 = .ok (.lastore, 1) := by decide +kernel
theorem dL_foretold_9 : decode cL_foretold 9 = .ok (.goto 6, 3) := by decide +kernel
theorem dL_foretold_12 : decode cL_foretold 12 = .ok (.astore_n 3, 1) := by decide +kernel
theorem dL_foretold_13 : decode cL_foretold 13 = .ok (.iconst 1, 1) := by decide +kernel
theorem dL_foretold_14 : decode cL_foretold 14 = .ok (.ireturn, 1) := by decide +kernel
theorem dL_foretold_15 : decode cL_foretold 15 = .ok (.iconst 0, 1) := by decide +kernel
theorem dL_foretold_16 : decode cL_foretold 16 = .ok (.ireturn, 1) := by decide +kernel
theorem dL_propose_0 : decode cL_propose 0 = .ok (.aload_n 2, 1) := by decide +kernel
theorem dL_propose_1 : decode cL_propose 1 = .ok (.iconst 0, 1) := by decide +kernel
theorem dL_propose_2 : decode cL_propose 2 = .ok (.aload_n 0, 1) := by decide +kernel
theorem dL_propose_3 : decode cL_propose 3 = .ok (.iload_n 1, 1) := by decide +kernel
theorem dL_propose_4 : decode cL_propose 4 = .ok (.invokevirtual 38, 3) := by decide +kernel
theorem dL_propose_7 : decode cL_propose 7 = .ok (.i2l, 1) := by decide +kernel
theorem dL_propose_8 : decode cL_propose 8 = .ok (.lastore, 1) := by decide +kernel
theorem dL_propose_9 : decode cL_propose 9 = .ok (.goto 9, 3) := by decide +kernel
theorem dL_propose_12 : decode cL_propose 12 = .ok (.astore_n 3, 1) := by decide +kernel
theorem dL_propose_13 : decode cL_propose 13 = .ok (.iconst 1, 1) := by decide +kernel
theorem dL_propose_14 : decode cL_propose 14 = .ok (.ireturn, 1) := by decide +kernel
theorem dL_propose_18 : decode cL_propose 18 = .ok (.iconst 0, 1) := by decide +kernel
theorem dL_propose_19 : decode cL_propose 19 = .ok (.ireturn, 1) := by decide +kernel
theorem dL_ask_0 : decode cL_ask 0 = .ok (.aload_n 2, 1) := by decide +kernel
theorem dL_ask_1 : decode cL_ask 1 = .ok (.iconst 0, 1) := by decide +kernel
theorem dL_ask_2 : decode cL_ask 2 = .ok (.aload_n 0, 1) := by decide +kernel
theorem dL_ask_3 : decode cL_ask 3 = .ok (.iload_n 1, 1) := by decide +kernel
theorem dL_ask_4 : decode cL_ask 4 = .ok (.invokevirtual 43, 3) := by decide +kernel
theorem dL_ask_19 : decode cL_ask 19 = .ok (.astore_n 3, 1) := by decide +kernel
theorem dL_ask_20 : decode cL_ask 20 = .ok (.iconst 1, 1) := by decide +kernel
theorem dL_ask_21 : decode cL_ask 21 = .ok (.ireturn, 1) := by decide +kernel
theorem dL_ask_22 : decode cL_ask 22 = .ok (.astore_n 3, 1) := by decide +kernel
theorem dL_ask_23 : decode cL_ask 23 = .ok (.iconst 2, 1) := by decide +kernel
theorem dL_ask_24 : decode cL_ask 24 = .ok (.ireturn, 1) := by decide +kernel
theorem dL_pass_0 : decode cL_pass 0 = .ok (.aload_n 2, 1) := by decide +kernel
theorem dL_pass_1 : decode cL_pass 1 = .ok (.iconst 0, 1) := by decide +kernel
theorem dL_pass_2 : decode cL_pass 2 = .ok (.aload_n 0, 1) := by decide +kernel
theorem dL_pass_3 : decode cL_pass 3 = .ok (.iload_n 1, 1) := by decide +kernel
theorem dL_pass_4 : decode cL_pass 4 = .ok (.invokevirtual 47, 3) := by decide +kernel
theorem dL_pass_7 : decode cL_pass 7 = .ok (.i2l, 1) := by decide +kernel
theorem dL_pass_8 : decode cL_pass 8 = .ok (.lastore, 1) := by decide +kernel
theorem dL_pass_9 : decode cL_pass 9 = .ok (.goto 6, 3) := by decide +kernel
theorem dL_pass_12 : decode cL_pass 12 = .ok (.astore_n 3, 1) := by decide +kernel
theorem dL_pass_13 : decode cL_pass 13 = .ok (.iconst 1, 1) := by decide +kernel
theorem dL_pass_14 : decode cL_pass 14 = .ok (.ireturn, 1) := by decide +kernel
theorem dL_pass_15 : decode cL_pass 15 = .ok (.iconst 0, 1) := by decide +kernel
theorem dL_pass_16 : decode cL_pass 16 = .ok (.ireturn, 1) := by decide +kernel
theorem dL_power_0 : decode cL_power 0 = .ok (.aload_n 3, 1) := by decide +kernel
theorem dL_power_1 : decode cL_power 1 = .ok (.iconst 0, 1) := by decide +kernel
theorem dL_power_2 : decode cL_power 2 = .ok (.aload_n 0, 1) := by decide +kernel
theorem dL_power_3 : decode cL_power 3 = .ok (.iload_n 1, 1) := by decide +kernel
theorem dL_power_4 : decode cL_power 4 = .ok (.iload_n 2, 1) := by decide +kernel
theorem dL_power_5 : decode cL_power 5 = .ok (.invokevirtual 50, 3) := by decide +kernel
theorem dL_power_8 : decode cL_power 8 = .ok (.ifCond .eq 7, 3) := by decide +kernel
theorem dL_power_11 : decode cL_power 11 = .ok (.lconst 1, 1) := by decide +kernel
theorem dL_power_12 : decode cL_power 12 = .ok (.goto 4, 3) := by decide +kernel
theorem dL_power_16 : decode cL_power 16 = .ok (.lastore, 1) := by decide +kernel
theorem dL_power_17 : decode cL_power 17 = .ok (.goto 7, 3) := by decide +kernel
theorem dL_power_20 : decode cL_power 20 = .ok (.astore 4, 2) := by decide +kernel
theorem dL_power_22 : decode cL_power 22 = .ok (.iconst 1, 1) := by decide +kernel
theorem dL_power_23 : decode cL_power 23 = .ok (.ireturn, 1) := by decide +kernel
theorem dL_power_24 : decode cL_power 24 = .ok (.iconst 0, 1) := by decide +kernel
theorem dL_power_25 : decode cL_power 25 = .ok (.ireturn, 1) := by decide +kernel
theorem dL_cut_0 : decode cL_cut 0 = .ok (.aload 4, 2) := by decide +kernel
theorem dL_cut_2 : decode cL_cut 2 = .ok (.iconst 0, 1) := by decide +kernel
theorem dL_cut_3 : decode cL_cut 3 = .ok (.aload_n 0, 1) := by decide +kernel
theorem dL_cut_4 : decode cL_cut 4 = .ok (.iload_n 1, 1) := by decide +kernel
theorem dL_cut_5 : decode cL_cut 5 = .ok (.iload_n 2, 1) := by decide +kernel
theorem dL_cut_6 : decode cL_cut 6 = .ok (.iload_n 3, 1) := by decide +kernel
theorem dL_cut_7 : decode cL_cut 7 = .ok (.invokevirtual 54, 3) := by decide +kernel
theorem dL_cut_22 : decode cL_cut 22 = .ok (.astore 5, 2) := by decide +kernel
theorem dL_cut_24 : decode cL_cut 24 = .ok (.iconst 1, 1) := by decide +kernel
theorem dL_cut_25 : decode cL_cut 25 = .ok (.ireturn, 1) := by decide +kernel
theorem dL_cut_26 : decode cL_cut 26 = .ok (.astore 5, 2) := by decide +kernel
theorem dL_cut_28 : decode cL_cut 28 = .ok (.iconst 2, 1) := by decide +kernel
theorem dL_cut_29 : decode cL_cut 29 = .ok (.ireturn, 1) := by decide +kernel
theorem dL_lead_0 : decode cL_lead 0 = .ok (.aload_n 2, 1) := by decide +kernel
theorem dL_lead_1 : decode cL_lead 1 = .ok (.iconst 0, 1) := by decide +kernel
theorem dL_lead_2 : decode cL_lead 2 = .ok (.aload_n 0, 1) := by decide +kernel
theorem dL_lead_3 : decode cL_lead 3 = .ok (.iload_n 1, 1) := by decide +kernel
theorem dL_lead_4 : decode cL_lead 4 = .ok (.invokevirtual 58, 3) := by decide +kernel
theorem dL_lead_7 : decode cL_lead 7 = .ok (.i2l, 1) := by decide +kernel
theorem dL_lead_8 : decode cL_lead 8 = .ok (.lastore, 1) := by decide +kernel
theorem dL_lead_9 : decode cL_lead 9 = .ok (.goto 6, 3) := by decide +kernel
theorem dL_lead_12 : decode cL_lead 12 = .ok (.astore_n 3, 1) := by decide +kernel
theorem dL_lead_13 : decode cL_lead 13 = .ok (.iconst 1, 1) := by decide +kernel
theorem dL_lead_14 : decode cL_lead 14 = .ok (.ireturn, 1) := by decide +kernel
theorem dL_lead_15 : decode cL_lead 15 = .ok (.iconst 0, 1) := by decide +kernel
theorem dL_lead_16 : decode cL_lead 16 = .ok (.ireturn, 1) := by decide +kernel
theorem dL_law_0 : decode cL_law 0 = .ok (.new 8, 3) := by decide +kernel
theorem dL_law_3 : decode cL_law 3 = .ok (.dup, 1) := by decide +kernel
theorem dL_law_4 : decode cL_law 4 = .ok (.invokespecial 61, 3) := by decide +kernel
theorem dL_law_7 : decode cL_law 7 = .ok (.astore_n 1, 1) := by decide +kernel
theorem dL_law_8 : decode cL_law 8 = .ok (.new 62, 3) := by decide +kernel
theorem dL_law_11 : decode cL_law 11 = .ok (.dup, 1) := by decide +kernel
theorem dL_law_12 : decode cL_law 12 = .ok (.invokespecial 64, 3) := by decide +kernel
theorem dL_law_15 : decode cL_law 15 = .ok (.astore_n 2, 1) := by decide +kernel
theorem dL_law_16 : decode cL_law 16 = .ok (.iconst 1, 1) := by decide +kernel
theorem dL_law_17 : decode cL_law 17 = .ok (.newarray .long, 2) := by decide +kernel
theorem dL_law_19 : decode cL_law 19 = .ok (.astore_n 3, 1) := by decide +kernel
theorem dL_law_20 : decode cL_law 20 = .ok (.iconst 0, 1) := by decide +kernel
theorem dL_law_21 : decode cL_law 21 = .ok (.istore 4, 2) := by decide +kernel
theorem dL_law_23 : decode cL_law 23 = .ok (.iload 4, 2) := by decide +kernel
theorem dL_law_25 : decode cL_law 25 = .ok (.aload_n 0, 1) := by decide +kernel
theorem dL_law_26 : decode cL_law 26 = .ok (.arraylength, 1) := by decide +kernel
theorem dL_law_27 : decode cL_law 27 = .ok (.bipush 6, 2) := by decide +kernel
theorem dL_law_29 : decode cL_law 29 = .ok (.isub, 1) := by decide +kernel
theorem dL_law_30 : decode cL_law 30 = .ok (.if_icmp .gt 1145, 3) := by decide +kernel
theorem dL_law_33 : decode cL_law 33 = .ok (.aload_n 0, 1) := by decide +kernel
theorem dL_law_34 : decode cL_law 34 = .ok (.iload 4, 2) := by decide +kernel
theorem dL_law_36 : decode cL_law 36 = .ok (.iaload, 1) := by decide +kernel
theorem dL_law_37 : decode cL_law 37 = .ok (.bipush 31, 2) := by decide +kernel
theorem dL_law_39 : decode cL_law 39 = .ok (.iand, 1) := by decide +kernel
theorem dL_law_40 : decode cL_law 40 = .ok (.tableswitch 1129 0 19 #[96, 169, 225, 238, 294, 362, 430, 498, 554, 567, 623, 636, 677, 733, 796, 852, 943, 1046, 1102, 1115], 96) := by decide +kernel
theorem dL_law_136 : decode cL_law 136 = .ok (.aload_n 1, 1) := by decide +kernel
theorem dL_law_137 : decode cL_law 137 = .ok (.aload_n 0, 1) := by decide +kernel
theorem dL_law_138 : decode cL_law 138 = .ok (.iload 4, 2) := by decide +kernel
theorem dL_law_140 : decode cL_law 140 = .ok (.iconst 1, 1) := by decide +kernel
theorem dL_law_141 : decode cL_law 141 = .ok (.iadd, 1) := by decide +kernel
theorem dL_law_142 : decode cL_law 142 = .ok (.iaload, 1) := by decide +kernel
theorem dL_law_143 : decode cL_law 143 = .ok (.aload_n 0, 1) := by decide +kernel
theorem dL_law_144 : decode cL_law 144 = .ok (.iload 4, 2) := by decide +kernel
theorem dL_law_146 : decode cL_law 146 = .ok (.iconst 2, 1) := by decide +kernel
theorem dL_law_147 : decode cL_law 147 = .ok (.iadd, 1) := by decide +kernel
theorem dL_law_148 : decode cL_law 148 = .ok (.iaload, 1) := by decide +kernel
theorem dL_law_149 : decode cL_law 149 = .ok (.aload_n 0, 1) := by decide +kernel
theorem dL_law_150 : decode cL_law 150 = .ok (.iload 4, 2) := by decide +kernel
theorem dL_law_152 : decode cL_law 152 = .ok (.iconst 3, 1) := by decide +kernel
theorem dL_law_153 : decode cL_law 153 = .ok (.iadd, 1) := by decide +kernel
theorem dL_law_154 : decode cL_law 154 = .ok (.iaload, 1) := by decide +kernel
theorem dL_law_155 : decode cL_law 155 = .ok (.aload_n 0, 1) := by decide +kernel
theorem dL_law_156 : decode cL_law 156 = .ok (.iload 4, 2) := by decide +kernel
theorem dL_law_158 : decode cL_law 158 = .ok (.iconst 4, 1) := by decide +kernel
theorem dL_law_159 : decode cL_law 159 = .ok (.iadd, 1) := by decide +kernel
theorem dL_law_160 : decode cL_law 160 = .ok (.iaload, 1) := by decide +kernel
theorem dL_law_161 : decode cL_law 161 = .ok (.aload_n 0, 1) := by decide +kernel
theorem dL_law_162 : decode cL_law 162 = .ok (.iload 4, 2) := by decide +kernel
theorem dL_law_164 : decode cL_law 164 = .ok (.iconst 5, 1) := by decide +kernel
theorem dL_law_165 : decode cL_law 165 = .ok (.iadd, 1) := by decide +kernel
theorem dL_law_166 : decode cL_law 166 = .ok (.iaload, 1) := by decide +kernel
theorem dL_law_167 : decode cL_law 167 = .ok (.invokevirtual 65, 3) := by decide +kernel
theorem dL_law_170 : decode cL_law 170 = .ok (.aload_n 2, 1) := by decide +kernel
theorem dL_law_171 : decode cL_law 171 = .ok (.aload_n 0, 1) := by decide +kernel
theorem dL_law_172 : decode cL_law 172 = .ok (.iload 4, 2) := by decide +kernel
theorem dL_law_174 : decode cL_law 174 = .ok (.iconst 1, 1) := by decide +kernel
theorem dL_law_175 : decode cL_law 175 = .ok (.iadd, 1) := by decide +kernel
theorem dL_law_176 : decode cL_law 176 = .ok (.iaload, 1) := by decide +kernel
theorem dL_law_177 : decode cL_law 177 = .ok (.aload_n 0, 1) := by decide +kernel
theorem dL_law_178 : decode cL_law 178 = .ok (.iload 4, 2) := by decide +kernel
theorem dL_law_180 : decode cL_law 180 = .ok (.iconst 2, 1) := by decide +kernel
theorem dL_law_181 : decode cL_law 181 = .ok (.iadd, 1) := by decide +kernel
theorem dL_law_182 : decode cL_law 182 = .ok (.iaload, 1) := by decide +kernel
theorem dL_law_183 : decode cL_law 183 = .ok (.aload_n 0, 1) := by decide +kernel
theorem dL_law_184 : decode cL_law 184 = .ok (.iload 4, 2) := by decide +kernel
theorem dL_law_186 : decode cL_law 186 = .ok (.iconst 3, 1) := by decide +kernel
theorem dL_law_187 : decode cL_law 187 = .ok (.iadd, 1) := by decide +kernel
theorem dL_law_188 : decode cL_law 188 = .ok (.iaload, 1) := by decide +kernel
theorem dL_law_189 : decode cL_law 189 = .ok (.aload_n 0, 1) := by decide +kernel
theorem dL_law_190 : decode cL_law 190 = .ok (.iload 4, 2) := by decide +kernel
theorem dL_law_192 : decode cL_law 192 = .ok (.iconst 4, 1) := by decide +kernel
theorem dL_law_193 : decode cL_law 193 = .ok (.iadd, 1) := by decide +kernel
theorem dL_law_194 : decode cL_law 194 = .ok (.iaload, 1) := by decide +kernel
theorem dL_law_195 : decode cL_law 195 = .ok (.aload_n 0, 1) := by decide +kernel
theorem dL_law_196 : decode cL_law 196 = .ok (.iload 4, 2) := by decide +kernel
theorem dL_law_198 : decode cL_law 198 = .ok (.iconst 5, 1) := by decide +kernel
theorem dL_law_199 : decode cL_law 199 = .ok (.iadd, 1) := by decide +kernel
theorem dL_law_200 : decode cL_law 200 = .ok (.iaload, 1) := by decide +kernel
theorem dL_law_201 : decode cL_law 201 = .ok (.invokevirtual 69, 3) := by decide +kernel
theorem dL_law_204 : decode cL_law 204 = .ok (.if_icmp .eq 965, 3) := by decide +kernel
theorem dL_law_209 : decode cL_law 209 = .ok (.aload_n 1, 1) := by decide +kernel
theorem dL_law_210 : decode cL_law 210 = .ok (.aload_n 0, 1) := by decide +kernel
theorem dL_law_211 : decode cL_law 211 = .ok (.iload 4, 2) := by decide +kernel
theorem dL_law_213 : decode cL_law 213 = .ok (.iconst 1, 1) := by decide +kernel
theorem dL_law_214 : decode cL_law 214 = .ok (.iadd, 1) := by decide +kernel
theorem dL_law_215 : decode cL_law 215 = .ok (.iaload, 1) := by decide +kernel
theorem dL_law_216 : decode cL_law 216 = .ok (.aload_n 3, 1) := by decide +kernel
theorem dL_law_217 : decode cL_law 217 = .ok (.invokestatic 70, 3) := by decide +kernel
theorem dL_law_220 : decode cL_law 220 = .ok (.istore 5, 2) := by decide +kernel
theorem dL_law_222 : decode cL_law 222 = .ok (.aload_n 2, 1) := by decide +kernel
theorem dL_law_223 : decode cL_law 223 = .ok (.aload_n 0, 1) := by decide +kernel
theorem dL_law_224 : decode cL_law 224 = .ok (.iload 4, 2) := by decide +kernel
theorem dL_law_226 : decode cL_law 226 = .ok (.iconst 1, 1) := by decide +kernel
theorem dL_law_227 : decode cL_law 227 = .ok (.iadd, 1) := by decide +kernel
theorem dL_law_228 : decode cL_law 228 = .ok (.iaload, 1) := by decide +kernel
theorem dL_law_229 : decode cL_law 229 = .ok (.invokevirtual 75, 3) := by decide +kernel
theorem dL_law_232 : decode cL_law 232 = .ok (.istore 6, 2) := by decide +kernel
theorem dL_law_234 : decode cL_law 234 = .ok (.aload_n 2, 1) := by decide +kernel
theorem dL_law_235 : decode cL_law 235 = .ok (.invokevirtual 76, 3) := by decide +kernel
theorem dL_law_238 : decode cL_law 238 = .ok (.iload 5, 2) := by decide +kernel
theorem dL_law_240 : decode cL_law 240 = .ok (.if_icmp .eq 5, 3) := by decide +kernel
theorem dL_law_245 : decode cL_law 245 = .ok (.iload 5, 2) := by decide +kernel
theorem dL_law_247 : decode cL_law 247 = .ok (.ifCond .ne 15, 3) := by decide +kernel
theorem dL_law_262 : decode cL_law 262 = .ok (.goto 907, 3) := by decide +kernel
theorem dL_law_265 : decode cL_law 265 = .ok (.aload_n 1, 1) := by decide +kernel
theorem dL_law_266 : decode cL_law 266 = .ok (.invokevirtual 80, 3) := by decide +kernel
theorem dL_law_269 : decode cL_law 269 = .ok (.aload_n 2, 1) := by decide +kernel
theorem dL_law_270 : decode cL_law 270 = .ok (.invokevirtual 83, 3) := by decide +kernel
theorem dL_law_273 : decode cL_law 273 = .ok (.if_icmp .eq 896, 3) := by decide +kernel
theorem dL_law_278 : decode cL_law 278 = .ok (.aload_n 1, 1) := by decide +kernel
theorem dL_law_279 : decode cL_law 279 = .ok (.aload_n 0, 1) := by decide +kernel
theorem dL_law_280 : decode cL_law 280 = .ok (.iload 4, 2) := by decide +kernel
theorem dL_law_282 : decode cL_law 282 = .ok (.iconst 1, 1) := by decide +kernel
theorem dL_law_283 : decode cL_law 283 = .ok (.iadd, 1) := by decide +kernel
theorem dL_law_284 : decode cL_law 284 = .ok (.iaload, 1) := by decide +kernel
theorem dL_law_285 : decode cL_law 285 = .ok (.aload_n 3, 1) := by decide +kernel
theorem dL_law_286 : decode cL_law 286 = .ok (.invokestatic 84, 3) := by decide +kernel
theorem dL_law_289 : decode cL_law 289 = .ok (.istore 5, 2) := by decide +kernel
theorem dL_law_291 : decode cL_law 291 = .ok (.aload_n 2, 1) := by decide +kernel
theorem dL_law_292 : decode cL_law 292 = .ok (.aload_n 0, 1) := by decide +kernel
theorem dL_law_293 : decode cL_law 293 = .ok (.iload 4, 2) := by decide +kernel
theorem dL_law_295 : decode cL_law 295 = .ok (.iconst 1, 1) := by decide +kernel
theorem dL_law_296 : decode cL_law 296 = .ok (.iadd, 1) := by decide +kernel
theorem dL_law_297 : decode cL_law 297 = .ok (.iaload, 1) := by decide +kernel
theorem dL_law_298 : decode cL_law 298 = .ok (.invokevirtual 86, 3) := by decide +kernel
theorem dL_law_301 : decode cL_law 301 = .ok (.istore 6, 2) := by decide +kernel
theorem dL_law_303 : decode cL_law 303 = .ok (.aload_n 2, 1) := by decide +kernel
theorem dL_law_304 : decode cL_law 304 = .ok (.invokevirtual 76, 3) := by decide +kernel
theorem dL_law_307 : decode cL_law 307 = .ok (.iload 5, 2) := by decide +kernel
theorem dL_law_309 : decode cL_law 309 = .ok (.if_icmp .eq 5, 3) := by decide +kernel
theorem dL_law_314 : decode cL_law 314 = .ok (.iload 5, 2) := by decide +kernel
theorem dL_law_316 : decode cL_law 316 = .ok (.ifCond .ne 15, 3) := by decide +kernel
theorem dL_law_319 : decode cL_law 319 = .ok (.aload_n 3, 1) := by decide +kernel
theorem dL_law_320 : decode cL_law 320 = .ok (.iconst 0, 1) := by decide +kernel
theorem dL_law_321 : decode cL_law 321 = .ok (.laload, 1) := by decide +kernel
theorem dL_law_322 : decode cL_law 322 = .ok (.iload 6, 2) := by decide +kernel
theorem dL_law_324 : decode cL_law 324 = .ok (.i2l, 1) := by decide +kernel
theorem dL_law_325 : decode cL_law 325 = .ok (.lcmp, 1) := by decide +kernel
theorem dL_law_326 : decode cL_law 326 = .ok (.ifCond .eq 5, 3) := by decide +kernel
theorem dL_law_331 : decode cL_law 331 = .ok (.goto 838, 3) := by decide +kernel
theorem dL_law_334 : decode cL_law 334 = .ok (.aload_n 1, 1) := by decide +kernel
theorem dL_law_335 : decode cL_law 335 = .ok (.aload_n 0, 1) := by decide +kernel
theorem dL_law_336 : decode cL_law 336 = .ok (.iload 4, 2) := by decide +kernel
theorem dL_law_338 : decode cL_law 338 = .ok (.iconst 1, 1) := by decide +kernel
theorem dL_law_339 : decode cL_law 339 = .ok (.iadd, 1) := by decide +kernel
theorem dL_law_340 : decode cL_law 340 = .ok (.iaload, 1) := by decide +kernel
theorem dL_law_341 : decode cL_law 341 = .ok (.aload_n 0, 1) := by decide +kernel
theorem dL_law_342 : decode cL_law 342 = .ok (.iload 4, 2) := by decide +kernel
theorem dL_law_344 : decode cL_law 344 = .ok (.iconst 2, 1) := by decide +kernel
theorem dL_law_345 : decode cL_law 345 = .ok (.iadd, 1) := by decide +kernel
theorem dL_law_346 : decode cL_law 346 = .ok (.iaload, 1) := by decide +kernel
theorem dL_law_347 : decode cL_law 347 = .ok (.aload_n 3, 1) := by decide +kernel
theorem dL_law_348 : decode cL_law 348 = .ok (.invokestatic 87, 3) := by decide +kernel
theorem dL_law_351 : decode cL_law 351 = .ok (.istore 5, 2) := by decide +kernel
theorem dL_law_353 : decode cL_law 353 = .ok (.aload_n 2, 1) := by decide +kernel
theorem dL_law_354 : decode cL_law 354 = .ok (.aload_n 0, 1) := by decide +kernel
theorem dL_law_355 : decode cL_law 355 = .ok (.iload 4, 2) := by decide +kernel
theorem dL_law_357 : decode cL_law 357 = .ok (.iconst 1, 1) := by decide +kernel
theorem dL_law_358 : decode cL_law 358 = .ok (.iadd, 1) := by decide +kernel
theorem dL_law_359 : decode cL_law 359 = .ok (.iaload, 1) := by decide +kernel
theorem dL_law_360 : decode cL_law 360 = .ok (.aload_n 0, 1) := by decide +kernel
theorem dL_law_361 : decode cL_law 361 = .ok (.iload 4, 2) := by decide +kernel
theorem dL_law_363 : decode cL_law 363 = .ok (.iconst 2, 1) := by decide +kernel
theorem dL_law_364 : decode cL_law 364 = .ok (.iadd, 1) := by decide +kernel
theorem dL_law_365 : decode cL_law 365 = .ok (.iaload, 1) := by decide +kernel
theorem dL_law_366 : decode cL_law 366 = .ok (.invokevirtual 90, 3) := by decide +kernel
theorem dL_law_369 : decode cL_law 369 = .ok (.istore 6, 2) := by decide +kernel
theorem dL_law_371 : decode cL_law 371 = .ok (.aload_n 2, 1) := by decide +kernel
theorem dL_law_372 : decode cL_law 372 = .ok (.invokevirtual 76, 3) := by decide +kernel
theorem dL_law_375 : decode cL_law 375 = .ok (.iload 5, 2) := by decide +kernel
theorem dL_law_377 : decode cL_law 377 = .ok (.if_icmp .eq 5, 3) := by decide +kernel
theorem dL_law_382 : decode cL_law 382 = .ok (.iload 5, 2) := by decide +kernel
theorem dL_law_384 : decode cL_law 384 = .ok (.ifCond .ne 15, 3) := by decide +kernel
theorem dL_law_387 : decode cL_law 387 = .ok (.aload_n 3, 1) := by decide +kernel
theorem dL_law_388 : decode cL_law 388 = .ok (.iconst 0, 1) := by decide +kernel
theorem dL_law_389 : decode cL_law 389 = .ok (.laload, 1) := by decide +kernel
theorem dL_law_390 : decode cL_law 390 = .ok (.iload 6, 2) := by decide +kernel
theorem dL_law_392 : decode cL_law 392 = .ok (.i2l, 1) := by decide +kernel
theorem dL_law_393 : decode cL_law 393 = .ok (.lcmp, 1) := by decide +kernel
theorem dL_law_394 : decode cL_law 394 = .ok (.ifCond .eq 5, 3) := by decide +kernel
theorem dL_law_399 : decode cL_law 399 = .ok (.goto 770, 3) := by decide +kernel
theorem dL_law_402 : decode cL_law 402 = .ok (.aload_n 1, 1) := by decide +kernel
theorem dL_law_403 : decode cL_law 403 = .ok (.aload_n 0, 1) := by decide +kernel
theorem dL_law_404 : decode cL_law 404 = .ok (.iload 4, 2) := by decide +kernel
theorem dL_law_406 : decode cL_law 406 = .ok (.iconst 1, 1) := by decide +kernel
theorem dL_law_407 : decode cL_law 407 = .ok (.iadd, 1) := by decide +kernel
theorem dL_law_408 : decode cL_law 408 = .ok (.iaload, 1) := by decide +kernel
theorem dL_law_409 : decode cL_law 409 = .ok (.aload_n 0, 1) := by decide +kernel
theorem dL_law_410 : decode cL_law 410 = .ok (.iload 4, 2) := by decide +kernel
theorem dL_law_412 : decode cL_law 412 = .ok (.iconst 2, 1) := by decide +kernel
theorem dL_law_413 : decode cL_law 413 = .ok (.iadd, 1) := by decide +kernel
theorem dL_law_414 : decode cL_law 414 = .ok (.iaload, 1) := by decide +kernel
theorem dL_law_415 : decode cL_law 415 = .ok (.aload_n 3, 1) := by decide +kernel
theorem dL_law_416 : decode cL_law 416 = .ok (.invokestatic 91, 3) := by decide +kernel
theorem dL_law_419 : decode cL_law 419 = .ok (.istore 5, 2) := by decide +kernel
theorem dL_law_421 : decode cL_law 421 = .ok (.aload_n 2, 1) := by decide +kernel
theorem dL_law_422 : decode cL_law 422 = .ok (.aload_n 0, 1) := by decide +kernel
theorem dL_law_423 : decode cL_law 423 = .ok (.iload 4, 2) := by decide +kernel
theorem dL_law_425 : decode cL_law 425 = .ok (.iconst 1, 1) := by decide +kernel
theorem dL_law_426 : decode cL_law 426 = .ok (.iadd, 1) := by decide +kernel
theorem dL_law_427 : decode cL_law 427 = .ok (.iaload, 1) := by decide +kernel
theorem dL_law_428 : decode cL_law 428 = .ok (.aload_n 0, 1) := by decide +kernel
theorem dL_law_429 : decode cL_law 429 = .ok (.iload 4, 2) := by decide +kernel
theorem dL_law_431 : decode cL_law 431 = .ok (.iconst 2, 1) := by decide +kernel
theorem dL_law_432 : decode cL_law 432 = .ok (.iadd, 1) := by decide +kernel
theorem dL_law_433 : decode cL_law 433 = .ok (.iaload, 1) := by decide +kernel
theorem dL_law_434 : decode cL_law 434 = .ok (.invokevirtual 93, 3) := by decide +kernel
theorem dL_law_437 : decode cL_law 437 = .ok (.istore 6, 2) := by decide +kernel
theorem dL_law_439 : decode cL_law 439 = .ok (.aload_n 2, 1) := by decide +kernel
theorem dL_law_440 : decode cL_law 440 = .ok (.invokevirtual 76, 3) := by decide +kernel
theorem dL_law_443 : decode cL_law 443 = .ok (.iload 5, 2) := by decide +kernel
theorem dL_law_445 : decode cL_law 445 = .ok (.if_icmp .eq 5, 3) := by decide +kernel
theorem dL_law_450 : decode cL_law 450 = .ok (.iload 5, 2) := by decide +kernel
theorem dL_law_452 : decode cL_law 452 = .ok (.ifCond .ne 15, 3) := by decide +kernel
theorem dL_law_455 : decode cL_law 455 = .ok (.aload_n 3, 1) := by decide +kernel
theorem dL_law_456 : decode cL_law 456 = .ok (.iconst 0, 1) := by decide +kernel
theorem dL_law_457 : decode cL_law 457 = .ok (.laload, 1) := by decide +kernel
theorem dL_law_458 : decode cL_law 458 = .ok (.iload 6, 2) := by decide +kernel
theorem dL_law_460 : decode cL_law 460 = .ok (.i2l, 1) := by decide +kernel
theorem dL_law_461 : decode cL_law 461 = .ok (.lcmp, 1) := by decide +kernel
theorem dL_law_462 : decode cL_law 462 = .ok (.ifCond .eq 5, 3) := by decide +kernel
theorem dL_law_467 : decode cL_law 467 = .ok (.goto 702, 3) := by decide +kernel
theorem dL_law_470 : decode cL_law 470 = .ok (.aload_n 1, 1) := by decide +kernel
theorem dL_law_471 : decode cL_law 471 = .ok (.aload_n 0, 1) := by decide +kernel
theorem dL_law_472 : decode cL_law 472 = .ok (.iload 4, 2) := by decide +kernel
theorem dL_law_474 : decode cL_law 474 = .ok (.iconst 1, 1) := by decide +kernel
theorem dL_law_475 : decode cL_law 475 = .ok (.iadd, 1) := by decide +kernel
theorem dL_law_476 : decode cL_law 476 = .ok (.iaload, 1) := by decide +kernel
theorem dL_law_477 : decode cL_law 477 = .ok (.aload_n 0, 1) := by decide +kernel
theorem dL_law_478 : decode cL_law 478 = .ok (.iload 4, 2) := by decide +kernel
theorem dL_law_480 : decode cL_law 480 = .ok (.iconst 2, 1) := by decide +kernel
theorem dL_law_481 : decode cL_law 481 = .ok (.iadd, 1) := by decide +kernel
theorem dL_law_482 : decode cL_law 482 = .ok (.iaload, 1) := by decide +kernel
theorem dL_law_483 : decode cL_law 483 = .ok (.aload_n 3, 1) := by decide +kernel
theorem dL_law_484 : decode cL_law 484 = .ok (.invokestatic 94, 3) := by decide +kernel
theorem dL_law_487 : decode cL_law 487 = .ok (.istore 5, 2) := by decide +kernel
theorem dL_law_489 : decode cL_law 489 = .ok (.aload_n 2, 1) := by decide +kernel
theorem dL_law_490 : decode cL_law 490 = .ok (.aload_n 0, 1) := by decide +kernel
theorem dL_law_491 : decode cL_law 491 = .ok (.iload 4, 2) := by decide +kernel
theorem dL_law_493 : decode cL_law 493 = .ok (.iconst 1, 1) := by decide +kernel
theorem dL_law_494 : decode cL_law 494 = .ok (.iadd, 1) := by decide +kernel
theorem dL_law_495 : decode cL_law 495 = .ok (.iaload, 1) := by decide +kernel
theorem dL_law_496 : decode cL_law 496 = .ok (.aload_n 0, 1) := by decide +kernel
theorem dL_law_497 : decode cL_law 497 = .ok (.iload 4, 2) := by decide +kernel
theorem dL_law_499 : decode cL_law 499 = .ok (.iconst 2, 1) := by decide +kernel
theorem dL_law_500 : decode cL_law 500 = .ok (.iadd, 1) := by decide +kernel
theorem dL_law_501 : decode cL_law 501 = .ok (.iaload, 1) := by decide +kernel
theorem dL_law_502 : decode cL_law 502 = .ok (.invokevirtual 96, 3) := by decide +kernel
theorem dL_law_505 : decode cL_law 505 = .ok (.istore 6, 2) := by decide +kernel
theorem dL_law_507 : decode cL_law 507 = .ok (.aload_n 2, 1) := by decide +kernel
theorem dL_law_508 : decode cL_law 508 = .ok (.invokevirtual 76, 3) := by decide +kernel
theorem dL_law_511 : decode cL_law 511 = .ok (.iload 5, 2) := by decide +kernel
theorem dL_law_513 : decode cL_law 513 = .ok (.if_icmp .eq 5, 3) := by decide +kernel
theorem dL_law_518 : decode cL_law 518 = .ok (.iload 5, 2) := by decide +kernel
theorem dL_law_520 : decode cL_law 520 = .ok (.ifCond .ne 15, 3) := by decide +kernel
theorem dL_law_535 : decode cL_law 535 = .ok (.goto 634, 3) := by decide +kernel
theorem dL_law_538 : decode cL_law 538 = .ok (.aload_n 1, 1) := by decide +kernel
theorem dL_law_539 : decode cL_law 539 = .ok (.aload_n 0, 1) := by decide +kernel
theorem dL_law_540 : decode cL_law 540 = .ok (.iload 4, 2) := by decide +kernel
theorem dL_law_542 : decode cL_law 542 = .ok (.iconst 1, 1) := by decide +kernel
theorem dL_law_543 : decode cL_law 543 = .ok (.iadd, 1) := by decide +kernel
theorem dL_law_544 : decode cL_law 544 = .ok (.iaload, 1) := by decide +kernel
theorem dL_law_545 : decode cL_law 545 = .ok (.aload_n 3, 1) := by decide +kernel
theorem dL_law_546 : decode cL_law 546 = .ok (.invokestatic 97, 3) := by decide +kernel
theorem dL_law_549 : decode cL_law 549 = .ok (.istore 5, 2) := by decide +kernel
theorem dL_law_551 : decode cL_law 551 = .ok (.aload_n 2, 1) := by decide +kernel
theorem dL_law_552 : decode cL_law 552 = .ok (.aload_n 0, 1) := by decide +kernel
theorem dL_law_553 : decode cL_law 553 = .ok (.iload 4, 2) := by decide +kernel
theorem dL_law_555 : decode cL_law 555 = .ok (.iconst 1, 1) := by decide +kernel
theorem dL_law_556 : decode cL_law 556 = .ok (.iadd, 1) := by decide +kernel
theorem dL_law_557 : decode cL_law 557 = .ok (.iaload, 1) := by decide +kernel
theorem dL_law_558 : decode cL_law 558 = .ok (.invokevirtual 99, 3) := by decide +kernel
theorem dL_law_561 : decode cL_law 561 = .ok (.istore 6, 2) := by decide +kernel
theorem dL_law_563 : decode cL_law 563 = .ok (.aload_n 2, 1) := by decide +kernel
theorem dL_law_564 : decode cL_law 564 = .ok (.invokevirtual 76, 3) := by decide +kernel
theorem dL_law_567 : decode cL_law 567 = .ok (.iload 5, 2) := by decide +kernel
theorem dL_law_569 : decode cL_law 569 = .ok (.if_icmp .eq 5, 3) := by decide +kernel
theorem dL_law_574 : decode cL_law 574 = .ok (.iload 5, 2) := by decide +kernel
theorem dL_law_576 : decode cL_law 576 = .ok (.ifCond .ne 15, 3) := by decide +kernel
theorem dL_law_591 : decode cL_law 591 = .ok (.goto 578, 3) := by decide +kernel
theorem dL_law_594 : decode cL_law 594 = .ok (.aload_n 1, 1) := by decide +kernel
theorem dL_law_595 : decode cL_law 595 = .ok (.invokevirtual 100, 3) := by decide +kernel
theorem dL_law_598 : decode cL_law 598 = .ok (.aload_n 2, 1) := by decide +kernel
theorem dL_law_599 : decode cL_law 599 = .ok (.invokevirtual 103, 3) := by decide +kernel
theorem dL_law_602 : decode cL_law 602 = .ok (.if_icmp .eq 567, 3) := by decide +kernel
theorem dL_law_607 : decode cL_law 607 = .ok (.aload_n 1, 1) := by decide +kernel
theorem dL_law_608 : decode cL_law 608 = .ok (.aload_n 0, 1) := by decide +kernel
theorem dL_law_609 : decode cL_law 609 = .ok (.iload 4, 2) := by decide +kernel
theorem dL_law_611 : decode cL_law 611 = .ok (.iconst 1, 1) := by decide +kernel
theorem dL_law_612 : decode cL_law 612 = .ok (.iadd, 1) := by decide +kernel
theorem dL_law_613 : decode cL_law 613 = .ok (.iaload, 1) := by decide +kernel
theorem dL_law_614 : decode cL_law 614 = .ok (.aload_n 3, 1) := by decide +kernel
theorem dL_law_615 : decode cL_law 615 = .ok (.invokestatic 104, 3) := by decide +kernel
theorem dL_law_618 : decode cL_law 618 = .ok (.istore 5, 2) := by decide +kernel
theorem dL_law_620 : decode cL_law 620 = .ok (.aload_n 2, 1) := by decide +kernel
theorem dL_law_621 : decode cL_law 621 = .ok (.aload_n 0, 1) := by decide +kernel
theorem dL_law_622 : decode cL_law 622 = .ok (.iload 4, 2) := by decide +kernel
theorem dL_law_624 : decode cL_law 624 = .ok (.iconst 1, 1) := by decide +kernel
theorem dL_law_625 : decode cL_law 625 = .ok (.iadd, 1) := by decide +kernel
theorem dL_law_626 : decode cL_law 626 = .ok (.iaload, 1) := by decide +kernel
theorem dL_law_627 : decode cL_law 627 = .ok (.invokevirtual 106, 3) := by decide +kernel
theorem dL_law_630 : decode cL_law 630 = .ok (.istore 6, 2) := by decide +kernel
theorem dL_law_632 : decode cL_law 632 = .ok (.aload_n 2, 1) := by decide +kernel
theorem dL_law_633 : decode cL_law 633 = .ok (.invokevirtual 76, 3) := by decide +kernel
theorem dL_law_636 : decode cL_law 636 = .ok (.iload 5, 2) := by decide +kernel
theorem dL_law_638 : decode cL_law 638 = .ok (.if_icmp .eq 5, 3) := by decide +kernel
theorem dL_law_643 : decode cL_law 643 = .ok (.iload 5, 2) := by decide +kernel
theorem dL_law_645 : decode cL_law 645 = .ok (.ifCond .ne 15, 3) := by decide +kernel
theorem dL_law_648 : decode cL_law 648 = .ok (.aload_n 3, 1) := by decide +kernel
theorem dL_law_649 : decode cL_law 649 = .ok (.iconst 0, 1) := by decide +kernel
theorem dL_law_650 : decode cL_law 650 = .ok (.laload, 1) := by decide +kernel
theorem dL_law_651 : decode cL_law 651 = .ok (.iload 6, 2) := by decide +kernel
theorem dL_law_653 : decode cL_law 653 = .ok (.i2l, 1) := by decide +kernel
theorem dL_law_654 : decode cL_law 654 = .ok (.lcmp, 1) := by decide +kernel
theorem dL_law_655 : decode cL_law 655 = .ok (.ifCond .eq 5, 3) := by decide +kernel
theorem dL_law_660 : decode cL_law 660 = .ok (.goto 509, 3) := by decide +kernel
theorem dL_law_663 : decode cL_law 663 = .ok (.aload_n 1, 1) := by decide +kernel
theorem dL_law_664 : decode cL_law 664 = .ok (.invokevirtual 107, 3) := by decide +kernel
theorem dL_law_667 : decode cL_law 667 = .ok (.aload_n 2, 1) := by decide +kernel
theorem dL_law_668 : decode cL_law 668 = .ok (.invokevirtual 110, 3) := by decide +kernel
theorem dL_law_671 : decode cL_law 671 = .ok (.if_icmp .eq 498, 3) := by decide +kernel
theorem dL_law_676 : decode cL_law 676 = .ok (.aload_n 1, 1) := by decide +kernel
theorem dL_law_677 : decode cL_law 677 = .ok (.invokevirtual 111, 3) := by decide +kernel
theorem dL_law_680 : decode cL_law 680 = .ok (.dstore 5, 2) := by decide +kernel
theorem dL_law_682 : decode cL_law 682 = .ok (.aload_n 2, 1) := by decide +kernel
theorem dL_law_683 : decode cL_law 683 = .ok (.invokevirtual 115, 3) := by decide +kernel
theorem dL_law_686 : decode cL_law 686 = .ok (.dstore 7, 2) := by decide +kernel
theorem dL_law_688 : decode cL_law 688 = .ok (.dload 5, 2) := by decide +kernel
theorem dL_law_690 : decode cL_law 690 = .ok (.dload 7, 2) := by decide +kernel
theorem dL_law_692 : decode cL_law 692 = .ok (.dcmp .l, 1) := by decide +kernel
theorem dL_law_693 : decode cL_law 693 = .ok (.ifCond .eq 21, 3) := by decide +kernel
theorem dL_law_714 : decode cL_law 714 = .ok (.goto 455, 3) := by decide +kernel
theorem dL_law_717 : decode cL_law 717 = .ok (.aload_n 1, 1) := by decide +kernel
theorem dL_law_718 : decode cL_law 718 = .ok (.aload_n 0, 1) := by decide +kernel
theorem dL_law_719 : decode cL_law 719 = .ok (.iload 4, 2) := by decide +kernel
theorem dL_law_721 : decode cL_law 721 = .ok (.iconst 1, 1) := by decide +kernel
theorem dL_law_722 : decode cL_law 722 = .ok (.iadd, 1) := by decide +kernel
theorem dL_law_723 : decode cL_law 723 = .ok (.iaload, 1) := by decide +kernel
theorem dL_law_724 : decode cL_law 724 = .ok (.aload_n 3, 1) := by decide +kernel
theorem dL_law_725 : decode cL_law 725 = .ok (.invokestatic 116, 3) := by decide +kernel
theorem dL_law_728 : decode cL_law 728 = .ok (.istore 5, 2) := by decide +kernel
theorem dL_law_730 : decode cL_law 730 = .ok (.aload_n 2, 1) := by decide +kernel
theorem dL_law_731 : decode cL_law 731 = .ok (.aload_n 0, 1) := by decide +kernel
theorem dL_law_732 : decode cL_law 732 = .ok (.iload 4, 2) := by decide +kernel
theorem dL_law_734 : decode cL_law 734 = .ok (.iconst 1, 1) := by decide +kernel
theorem dL_law_735 : decode cL_law 735 = .ok (.iadd, 1) := by decide +kernel
theorem dL_law_736 : decode cL_law 736 = .ok (.iaload, 1) := by decide +kernel
theorem dL_law_737 : decode cL_law 737 = .ok (.invokevirtual 118, 3) := by decide +kernel
theorem dL_law_740 : decode cL_law 740 = .ok (.istore 6, 2) := by decide +kernel
theorem dL_law_742 : decode cL_law 742 = .ok (.aload_n 2, 1) := by decide +kernel
theorem dL_law_743 : decode cL_law 743 = .ok (.invokevirtual 76, 3) := by decide +kernel
theorem dL_law_746 : decode cL_law 746 = .ok (.iload 5, 2) := by decide +kernel
theorem dL_law_748 : decode cL_law 748 = .ok (.if_icmp .eq 5, 3) := by decide +kernel
theorem dL_law_753 : decode cL_law 753 = .ok (.iload 5, 2) := by decide +kernel
theorem dL_law_755 : decode cL_law 755 = .ok (.ifCond .ne 15, 3) := by decide +kernel
theorem dL_law_758 : decode cL_law 758 = .ok (.aload_n 3, 1) := by decide +kernel
theorem dL_law_759 : decode cL_law 759 = .ok (.iconst 0, 1) := by decide +kernel
theorem dL_law_760 : decode cL_law 760 = .ok (.laload, 1) := by decide +kernel
theorem dL_law_761 : decode cL_law 761 = .ok (.iload 6, 2) := by decide +kernel
theorem dL_law_763 : decode cL_law 763 = .ok (.i2l, 1) := by decide +kernel
theorem dL_law_764 : decode cL_law 764 = .ok (.lcmp, 1) := by decide +kernel
theorem dL_law_765 : decode cL_law 765 = .ok (.ifCond .eq 5, 3) := by decide +kernel
theorem dL_law_770 : decode cL_law 770 = .ok (.goto 399, 3) := by decide +kernel
theorem dL_law_773 : decode cL_law 773 = .ok (.aload_n 1, 1) := by decide +kernel
theorem dL_law_774 : decode cL_law 774 = .ok (.aload_n 0, 1) := by decide +kernel
theorem dL_law_775 : decode cL_law 775 = .ok (.iload 4, 2) := by decide +kernel
theorem dL_law_777 : decode cL_law 777 = .ok (.iconst 1, 1) := by decide +kernel
theorem dL_law_778 : decode cL_law 778 = .ok (.iadd, 1) := by decide +kernel
theorem dL_law_779 : decode cL_law 779 = .ok (.iaload, 1) := by decide +kernel
theorem dL_law_780 : decode cL_law 780 = .ok (.aload_n 3, 1) := by decide +kernel
theorem dL_law_781 : decode cL_law 781 = .ok (.invokestatic 119, 3) := by decide +kernel
theorem dL_law_784 : decode cL_law 784 = .ok (.istore 5, 2) := by decide +kernel
theorem dL_law_786 : decode cL_law 786 = .ok (.aload_n 2, 1) := by decide +kernel
theorem dL_law_787 : decode cL_law 787 = .ok (.aload_n 0, 1) := by decide +kernel
theorem dL_law_788 : decode cL_law 788 = .ok (.iload 4, 2) := by decide +kernel
theorem dL_law_790 : decode cL_law 790 = .ok (.iconst 1, 1) := by decide +kernel
theorem dL_law_791 : decode cL_law 791 = .ok (.iadd, 1) := by decide +kernel
theorem dL_law_792 : decode cL_law 792 = .ok (.iaload, 1) := by decide +kernel
theorem dL_law_793 : decode cL_law 793 = .ok (.invokevirtual 121, 3) := by decide +kernel
theorem dL_law_796 : decode cL_law 796 = .ok (.istore 6, 2) := by decide +kernel
theorem dL_law_798 : decode cL_law 798 = .ok (.aload_n 2, 1) := by decide +kernel
theorem dL_law_799 : decode cL_law 799 = .ok (.invokevirtual 76, 3) := by decide +kernel
theorem dL_law_802 : decode cL_law 802 = .ok (.iload 5, 2) := by decide +kernel
theorem dL_law_804 : decode cL_law 804 = .ok (.if_icmp .eq 5, 3) := by decide +kernel
theorem dL_law_809 : decode cL_law 809 = .ok (.iload 5, 2) := by decide +kernel
theorem dL_law_811 : decode cL_law 811 = .ok (.ifCond .ne 22, 3) := by decide +kernel
theorem dL_law_833 : decode cL_law 833 = .ok (.goto 336, 3) := by decide +kernel
theorem dL_law_836 : decode cL_law 836 = .ok (.aload_n 1, 1) := by decide +kernel
theorem dL_law_837 : decode cL_law 837 = .ok (.aload_n 0, 1) := by decide +kernel
theorem dL_law_838 : decode cL_law 838 = .ok (.iload 4, 2) := by decide +kernel
theorem dL_law_840 : decode cL_law 840 = .ok (.iconst 1, 1) := by decide +kernel
theorem dL_law_841 : decode cL_law 841 = .ok (.iadd, 1) := by decide +kernel
theorem dL_law_842 : decode cL_law 842 = .ok (.iaload, 1) := by decide +kernel
theorem dL_law_843 : decode cL_law 843 = .ok (.aload_n 3, 1) := by decide +kernel
theorem dL_law_844 : decode cL_law 844 = .ok (.invokestatic 122, 3) := by decide +kernel
theorem dL_law_847 : decode cL_law 847 = .ok (.istore 5, 2) := by decide +kernel
theorem dL_law_849 : decode cL_law 849 = .ok (.aload_n 2, 1) := by decide +kernel
theorem dL_law_850 : decode cL_law 850 = .ok (.aload_n 0, 1) := by decide +kernel
theorem dL_law_851 : decode cL_law 851 = .ok (.iload 4, 2) := by decide +kernel
theorem dL_law_853 : decode cL_law 853 = .ok (.iconst 1, 1) := by decide +kernel
theorem dL_law_854 : decode cL_law 854 = .ok (.iadd, 1) := by decide +kernel
theorem dL_law_855 : decode cL_law 855 = .ok (.iaload, 1) := by decide +kernel
theorem dL_law_856 : decode cL_law 856 = .ok (.invokevirtual 124, 3) := by decide +kernel
theorem dL_law_859 : decode cL_law 859 = .ok (.istore 6, 2) := by decide +kernel
theorem dL_law_861 : decode cL_law 861 = .ok (.aload_n 2, 1) := by decide +kernel
theorem dL_law_862 : decode cL_law 862 = .ok (.invokevirtual 76, 3) := by decide +kernel
theorem dL_law_865 : decode cL_law 865 = .ok (.iload 5, 2) := by decide +kernel
theorem dL_law_867 : decode cL_law 867 = .ok (.if_icmp .eq 5, 3) := by decide +kernel
theorem dL_law_872 : decode cL_law 872 = .ok (.iload 5, 2) := by decide +kernel
theorem dL_law_874 : decode cL_law 874 = .ok (.ifCond .ne 15, 3) := by decide +kernel
theorem dL_law_889 : decode cL_law 889 = .ok (.goto 280, 3) := by decide +kernel
theorem dL_law_892 : decode cL_law 892 = .ok (.aload_n 1, 1) := by decide +kernel
theorem dL_law_893 : decode cL_law 893 = .ok (.aload_n 0, 1) := by decide +kernel
theorem dL_law_894 : decode cL_law 894 = .ok (.iload 4, 2) := by decide +kernel
theorem dL_law_896 : decode cL_law 896 = .ok (.iconst 1, 1) := by decide +kernel
theorem dL_law_897 : decode cL_law 897 = .ok (.iadd, 1) := by decide +kernel
theorem dL_law_898 : decode cL_law 898 = .ok (.iaload, 1) := by decide +kernel
theorem dL_law_899 : decode cL_law 899 = .ok (.aload_n 0, 1) := by decide +kernel
theorem dL_law_900 : decode cL_law 900 = .ok (.iload 4, 2) := by decide +kernel
theorem dL_law_902 : decode cL_law 902 = .ok (.iconst 2, 1) := by decide +kernel
theorem dL_law_903 : decode cL_law 903 = .ok (.iadd, 1) := by decide +kernel
theorem dL_law_904 : decode cL_law 904 = .ok (.iaload, 1) := by decide +kernel
theorem dL_law_905 : decode cL_law 905 = .ok (.ifCond .eq 7, 3) := by decide +kernel
theorem dL_law_908 : decode cL_law 908 = .ok (.iconst 1, 1) := by decide +kernel
theorem dL_law_909 : decode cL_law 909 = .ok (.goto 4, 3) := by decide +kernel
theorem dL_law_912 : decode cL_law 912 = .ok (.iconst 0, 1) := by decide +kernel
theorem dL_law_913 : decode cL_law 913 = .ok (.aload_n 3, 1) := by decide +kernel
theorem dL_law_914 : decode cL_law 914 = .ok (.invokestatic 125, 3) := by decide +kernel
theorem dL_law_917 : decode cL_law 917 = .ok (.istore 5, 2) := by decide +kernel
theorem dL_law_919 : decode cL_law 919 = .ok (.aload_n 2, 1) := by decide +kernel
theorem dL_law_920 : decode cL_law 920 = .ok (.aload_n 0, 1) := by decide +kernel
theorem dL_law_921 : decode cL_law 921 = .ok (.iload 4, 2) := by decide +kernel
theorem dL_law_923 : decode cL_law 923 = .ok (.iconst 1, 1) := by decide +kernel
theorem dL_law_924 : decode cL_law 924 = .ok (.iadd, 1) := by decide +kernel
theorem dL_law_925 : decode cL_law 925 = .ok (.iaload, 1) := by decide +kernel
theorem dL_law_926 : decode cL_law 926 = .ok (.aload_n 0, 1) := by decide +kernel
theorem dL_law_927 : decode cL_law 927 = .ok (.iload 4, 2) := by decide +kernel
theorem dL_law_929 : decode cL_law 929 = .ok (.iconst 2, 1) := by decide +kernel
theorem dL_law_930 : decode cL_law 930 = .ok (.iadd, 1) := by decide +kernel
theorem dL_law_931 : decode cL_law 931 = .ok (.iaload, 1) := by decide +kernel
theorem dL_law_932 : decode cL_law 932 = .ok (.ifCond .eq 7, 3) := by decide +kernel
theorem dL_law_935 : decode cL_law 935 = .ok (.iconst 1, 1) := by decide +kernel
theorem dL_law_936 : decode cL_law 936 = .ok (.goto 4, 3) := by decide +kernel
theorem dL_law_939 : decode cL_law 939 = .ok (.iconst 0, 1) := by decide +kernel
theorem dL_law_940 : decode cL_law 940 = .ok (.invokevirtual 128, 3) := by decide +kernel
theorem dL_law_943 : decode cL_law 943 = .ok (.istore 6, 2) := by decide +kernel
theorem dL_law_945 : decode cL_law 945 = .ok (.aload_n 2, 1) := by decide +kernel
theorem dL_law_946 : decode cL_law 946 = .ok (.invokevirtual 76, 3) := by decide +kernel
theorem dL_law_949 : decode cL_law 949 = .ok (.iload 5, 2) := by decide +kernel
theorem dL_law_951 : decode cL_law 951 = .ok (.if_icmp .eq 5, 3) := by decide +kernel
theorem dL_law_956 : decode cL_law 956 = .ok (.iload 5, 2) := by decide +kernel
theorem dL_law_958 : decode cL_law 958 = .ok (.ifCond .ne 22, 3) := by decide +kernel
theorem dL_law_961 : decode cL_law 961 = .ok (.aload_n 3, 1) := by decide +kernel
theorem dL_law_962 : decode cL_law 962 = .ok (.iconst 0, 1) := by decide +kernel
theorem dL_law_963 : decode cL_law 963 = .ok (.laload, 1) := by decide +kernel
theorem dL_law_964 : decode cL_law 964 = .ok (.iload 6, 2) := by decide +kernel
theorem dL_law_966 : decode cL_law 966 = .ok (.ifCond .eq 7, 3) := by decide +kernel
theorem dL_law_969 : decode cL_law 969 = .ok (.lconst 1, 1) := by decide +kernel
theorem dL_law_970 : decode cL_law 970 = .ok (.goto 4, 3) := by decide +kernel
theorem dL_law_974 : decode cL_law 974 = .ok (.lcmp, 1) := by decide +kernel
theorem dL_law_975 : decode cL_law 975 = .ok (.ifCond .eq 5, 3) := by decide +kernel
theorem dL_law_980 : decode cL_law 980 = .ok (.goto 189, 3) := by decide +kernel
theorem dL_law_983 : decode cL_law 983 = .ok (.aload_n 1, 1) := by decide +kernel
theorem dL_law_984 : decode cL_law 984 = .ok (.aload_n 0, 1) := by decide +kernel
theorem dL_law_985 : decode cL_law 985 = .ok (.iload 4, 2) := by decide +kernel
theorem dL_law_987 : decode cL_law 987 = .ok (.iconst 1, 1) := by decide +kernel
theorem dL_law_988 : decode cL_law 988 = .ok (.iadd, 1) := by decide +kernel
theorem dL_law_989 : decode cL_law 989 = .ok (.iaload, 1) := by decide +kernel
theorem dL_law_990 : decode cL_law 990 = .ok (.aload_n 0, 1) := by decide +kernel
theorem dL_law_991 : decode cL_law 991 = .ok (.iload 4, 2) := by decide +kernel
theorem dL_law_993 : decode cL_law 993 = .ok (.iconst 2, 1) := by decide +kernel
theorem dL_law_994 : decode cL_law 994 = .ok (.iadd, 1) := by decide +kernel
theorem dL_law_995 : decode cL_law 995 = .ok (.iaload, 1) := by decide +kernel
theorem dL_law_996 : decode cL_law 996 = .ok (.aload_n 0, 1) := by decide +kernel
theorem dL_law_997 : decode cL_law 997 = .ok (.iload 4, 2) := by decide +kernel
theorem dL_law_999 : decode cL_law 999 = .ok (.iconst 3, 1) := by decide +kernel
theorem dL_law_1000 : decode cL_law 1000 = .ok (.iadd, 1) := by decide +kernel
theorem dL_law_1001 : decode cL_law 1001 = .ok (.iaload, 1) := by decide +kernel
theorem dL_law_1002 : decode cL_law 1002 = .ok (.ifCond .eq 7, 3) := by decide +kernel
theorem dL_law_1005 : decode cL_law 1005 = .ok (.iconst 1, 1) := by decide +kernel
theorem dL_law_1006 : decode cL_law 1006 = .ok (.goto 4, 3) := by decide +kernel
theorem dL_law_1009 : decode cL_law 1009 = .ok (.iconst 0, 1) := by decide +kernel
theorem dL_law_1010 : decode cL_law 1010 = .ok (.aload_n 3, 1) := by decide +kernel
theorem dL_law_1011 : decode cL_law 1011 = .ok (.invokestatic 129, 3) := by decide +kernel
theorem dL_law_1014 : decode cL_law 1014 = .ok (.istore 5, 2) := by decide +kernel
theorem dL_law_1016 : decode cL_law 1016 = .ok (.aload_n 2, 1) := by decide +kernel
theorem dL_law_1017 : decode cL_law 1017 = .ok (.aload_n 0, 1) := by decide +kernel
theorem dL_law_1018 : decode cL_law 1018 = .ok (.iload 4, 2) := by decide +kernel
theorem dL_law_1020 : decode cL_law 1020 = .ok (.iconst 1, 1) := by decide +kernel
theorem dL_law_1021 : decode cL_law 1021 = .ok (.iadd, 1) := by decide +kernel
theorem dL_law_1022 : decode cL_law 1022 = .ok (.iaload, 1) := by decide +kernel
theorem dL_law_1023 : decode cL_law 1023 = .ok (.aload_n 0, 1) := by decide +kernel
theorem dL_law_1024 : decode cL_law 1024 = .ok (.iload 4, 2) := by decide +kernel
theorem dL_law_1026 : decode cL_law 1026 = .ok (.iconst 2, 1) := by decide +kernel
theorem dL_law_1027 : decode cL_law 1027 = .ok (.iadd, 1) := by decide +kernel
theorem dL_law_1028 : decode cL_law 1028 = .ok (.iaload, 1) := by decide +kernel
theorem dL_law_1029 : decode cL_law 1029 = .ok (.aload_n 0, 1) := by decide +kernel
theorem dL_law_1030 : decode cL_law 1030 = .ok (.iload 4, 2) := by decide +kernel
theorem dL_law_1032 : decode cL_law 1032 = .ok (.iconst 3, 1) := by decide +kernel
theorem dL_law_1033 : decode cL_law 1033 = .ok (.iadd, 1) := by decide +kernel
theorem dL_law_1034 : decode cL_law 1034 = .ok (.iaload, 1) := by decide +kernel
theorem dL_law_1035 : decode cL_law 1035 = .ok (.ifCond .eq 7, 3) := by decide +kernel
theorem dL_law_1038 : decode cL_law 1038 = .ok (.iconst 1, 1) := by decide +kernel
theorem dL_law_1039 : decode cL_law 1039 = .ok (.goto 4, 3) := by decide +kernel
theorem dL_law_1042 : decode cL_law 1042 = .ok (.iconst 0, 1) := by decide +kernel
theorem dL_law_1043 : decode cL_law 1043 = .ok (.invokevirtual 132, 3) := by decide +kernel
theorem dL_law_1046 : decode cL_law 1046 = .ok (.istore 6, 2) := by decide +kernel
theorem dL_law_1048 : decode cL_law 1048 = .ok (.aload_n 2, 1) := by decide +kernel
theorem dL_law_1049 : decode cL_law 1049 = .ok (.invokevirtual 76, 3) := by decide +kernel
theorem dL_law_1052 : decode cL_law 1052 = .ok (.iload 5, 2) := by decide +kernel
theorem dL_law_1054 : decode cL_law 1054 = .ok (.if_icmp .eq 5, 3) := by decide +kernel
theorem dL_law_1059 : decode cL_law 1059 = .ok (.iload 5, 2) := by decide +kernel
theorem dL_law_1061 : decode cL_law 1061 = .ok (.ifCond .ne 22, 3) := by decide +kernel
theorem dL_law_1083 : decode cL_law 1083 = .ok (.goto 86, 3) := by decide +kernel
theorem dL_law_1086 : decode cL_law 1086 = .ok (.aload_n 1, 1) := by decide +kernel
theorem dL_law_1087 : decode cL_law 1087 = .ok (.aload_n 0, 1) := by decide +kernel
theorem dL_law_1088 : decode cL_law 1088 = .ok (.iload 4, 2) := by decide +kernel
theorem dL_law_1090 : decode cL_law 1090 = .ok (.iconst 1, 1) := by decide +kernel
theorem dL_law_1091 : decode cL_law 1091 = .ok (.iadd, 1) := by decide +kernel
theorem dL_law_1092 : decode cL_law 1092 = .ok (.iaload, 1) := by decide +kernel
theorem dL_law_1093 : decode cL_law 1093 = .ok (.aload_n 3, 1) := by decide +kernel
theorem dL_law_1094 : decode cL_law 1094 = .ok (.invokestatic 133, 3) := by decide +kernel
theorem dL_law_1097 : decode cL_law 1097 = .ok (.istore 5, 2) := by decide +kernel
theorem dL_law_1099 : decode cL_law 1099 = .ok (.aload_n 2, 1) := by decide +kernel
theorem dL_law_1100 : decode cL_law 1100 = .ok (.aload_n 0, 1) := by decide +kernel
theorem dL_law_1101 : decode cL_law 1101 = .ok (.iload 4, 2) := by decide +kernel
theorem dL_law_1103 : decode cL_law 1103 = .ok (.iconst 1, 1) := by decide +kernel
theorem dL_law_1104 : decode cL_law 1104 = .ok (.iadd, 1) := by decide +kernel
theorem dL_law_1105 : decode cL_law 1105 = .ok (.iaload, 1) := by decide +kernel
theorem dL_law_1106 : decode cL_law 1106 = .ok (.invokevirtual 135, 3) := by decide +kernel
theorem dL_law_1109 : decode cL_law 1109 = .ok (.istore 6, 2) := by decide +kernel
theorem dL_law_1111 : decode cL_law 1111 = .ok (.aload_n 2, 1) := by decide +kernel
theorem dL_law_1112 : decode cL_law 1112 = .ok (.invokevirtual 76, 3) := by decide +kernel
theorem dL_law_1115 : decode cL_law 1115 = .ok (.iload 5, 2) := by decide +kernel
theorem dL_law_1117 : decode cL_law 1117 = .ok (.if_icmp .eq 5, 3) := by decide +kernel
theorem dL_law_1122 : decode cL_law 1122 = .ok (.iload 5, 2) := by decide +kernel
theorem dL_law_1124 : decode cL_law 1124 = .ok (.ifCond .ne 15, 3) := by decide +kernel
theorem dL_law_1127 : decode cL_law 1127 = .ok (.aload_n 3, 1) := by decide +kernel
theorem dL_law_1128 : decode cL_law 1128 = .ok (.iconst 0, 1) := by decide +kernel
theorem dL_law_1129 : decode cL_law 1129 = .ok (.laload, 1) := by decide +kernel
theorem dL_law_1130 : decode cL_law 1130 = .ok (.iload 6, 2) := by decide +kernel
theorem dL_law_1132 : decode cL_law 1132 = .ok (.i2l, 1) := by decide +kernel
theorem dL_law_1133 : decode cL_law 1133 = .ok (.lcmp, 1) := by decide +kernel
theorem dL_law_1134 : decode cL_law 1134 = .ok (.ifCond .eq 5, 3) := by decide +kernel
theorem dL_law_1139 : decode cL_law 1139 = .ok (.goto 30, 3) := by decide +kernel
theorem dL_law_1142 : decode cL_law 1142 = .ok (.aload_n 1, 1) := by decide +kernel
theorem dL_law_1143 : decode cL_law 1143 = .ok (.invokevirtual 136, 3) := by decide +kernel
theorem dL_law_1146 : decode cL_law 1146 = .ok (.aload_n 2, 1) := by decide +kernel
theorem dL_law_1147 : decode cL_law 1147 = .ok (.invokevirtual 139, 3) := by decide +kernel
theorem dL_law_1150 : decode cL_law 1150 = .ok (.if_icmp .eq 19, 3) := by decide +kernel
theorem dL_law_1155 : decode cL_law 1155 = .ok (.aload_n 1, 1) := by decide +kernel
theorem dL_law_1156 : decode cL_law 1156 = .ok (.invokevirtual 140, 3) := by decide +kernel
theorem dL_law_1159 : decode cL_law 1159 = .ok (.aload_n 2, 1) := by decide +kernel
theorem dL_law_1160 : decode cL_law 1160 = .ok (.invokevirtual 144, 3) := by decide +kernel
theorem dL_law_1163 : decode cL_law 1163 = .ok (.lcmp, 1) := by decide +kernel
theorem dL_law_1164 : decode cL_law 1164 = .ok (.ifCond .eq 5, 3) := by decide +kernel
theorem dL_law_1169 : decode cL_law 1169 = .ok (.iinc 4 6, 3) := by decide +kernel
theorem dL_law_1172 : decode cL_law 1172 = .ok (.goto (-1149), 3) := by decide +kernel
theorem dL_law_1175 : decode cL_law 1175 = .ok (.iconst 1, 1) := by decide +kernel
theorem dL_law_1176 : decode cL_law 1176 = .ok (.ireturn, 1) := by decide +kernel
abbrev vwCl : List vw_C := [(RX0, TX0, 2), (RX1, TX1, 7), (RX2, TX2, 3), (RX3, TX3, 10), (RX4, TX4, 8), (RX5, TX5, 14), (RX6, TX6, 8), (RX7, TX7, 16), (RX8, TX8, 7), (RX9, TX9, 18)]
