theorem dX0_init_0 : decode cX0_init 0 = .ok (.aload_n 0, 1) := by decide +kernel
theorem dX0_init_1 : decode cX0_init 1 = .ok (.invokespecial 3, 3) := by decide +kernel
theorem dX0_init_4 : decode cX0_init 4 = .ok (.aload_n 0, 1) := by decide +kernel
theorem dX0_init_5 : decode cX0_init 5 = .ok (.bipush 12, 2) := by decide +kernel
theorem dX0_init_7 : decode cX0_init 7 = .ok (.newarray .int, 2) := by decide +kernel
theorem dX0_init_9 : decode cX0_init 9 = .ok (.putfield 9, 3) := by decide +kernel
theorem dX0_init_12 : decode cX0_init 12 = .ok (.aload_n 0, 1) := by decide +kernel
theorem dX0_init_13 : decode cX0_init 13 = .ok (.bipush 12, 2) := by decide +kernel
theorem dX0_init_15 : decode cX0_init 15 = .ok (.newarray .int, 2) := by decide +kernel
theorem dX0_init_17 : decode cX0_init 17 = .ok (.putfield 15, 3) := by decide +kernel
theorem dX0_init_20 : decode cX0_init 20 = .ok (.aload_n 0, 1) := by decide +kernel
theorem dX0_init_21 : decode cX0_init 21 = .ok (.bipush 12, 2) := by decide +kernel
theorem dX0_init_23 : decode cX0_init 23 = .ok (.newarray .int, 2) := by decide +kernel
theorem dX0_init_25 : decode cX0_init 25 = .ok (.putfield 18, 3) := by decide +kernel
theorem dX0_init_28 : decode cX0_init 28 = .ok (.aload_n 0, 1) := by decide +kernel
theorem dX0_init_29 : decode cX0_init 29 = .ok (.iconst 1, 1) := by decide +kernel
theorem dX0_init_30 : decode cX0_init 30 = .ok (.putfield 21, 3) := by decide +kernel
theorem dX0_init_33 : decode cX0_init 33 = .ok (.aload_n 0, 1) := by decide +kernel
theorem dX0_init_34 : decode cX0_init 34 = .ok (.bipush 12, 2) := by decide +kernel
theorem dX0_init_36 : decode cX0_init 36 = .ok (.newarray .int, 2) := by decide +kernel
theorem dX0_init_38 : decode cX0_init 38 = .ok (.putfield 25, 3) := by decide +kernel
theorem dX0_init_41 : decode cX0_init 41 = .ok (.aload_n 0, 1) := by decide +kernel
theorem dX0_init_42 : decode cX0_init 42 = .ok (.bipush 12, 2) := by decide +kernel
theorem dX0_init_44 : decode cX0_init 44 = .ok (.newarray .int, 2) := by decide +kernel
theorem dX0_init_46 : decode cX0_init 46 = .ok (.putfield 28, 3) := by decide +kernel
theorem dX0_init_49 : decode cX0_init 49 = .ok (.aload_n 0, 1) := by decide +kernel
theorem dX0_init_50 : decode cX0_init 50 = .ok (.bipush 12, 2) := by decide +kernel
theorem dX0_init_52 : decode cX0_init 52 = .ok (.newarray .int, 2) := by decide +kernel
theorem dX0_init_54 : decode cX0_init 54 = .ok (.putfield 31, 3) := by decide +kernel
theorem dX0_init_57 : decode cX0_init 57 = .ok (.aload_n 0, 1) := by decide +kernel
theorem dX0_init_58 : decode cX0_init 58 = .ok (.new 34, 3) := by decide +kernel
theorem dX0_init_61 : decode cX0_init 61 = .ok (.dup, 1) := by decide +kernel
theorem dX0_init_62 : decode cX0_init 62 = .ok (.invokespecial 36, 3) := by decide +kernel
theorem dX0_init_65 : decode cX0_init 65 = .ok (.putfield 37, 3) := by decide +kernel
theorem dX0_init_68 : decode cX0_init 68 = .ok (.return_, 1) := by decide +kernel
theorem dX0_add_0 : decode cX0_add 0 = .ok (.aload_n 0, 1) := by decide +kernel
theorem dX0_add_1 : decode cX0_add 1 = .ok (.getfield 9, 3) := by decide +kernel
theorem dX0_add_4 : decode cX0_add 4 = .ok (.aload_n 0, 1) := by decide +kernel
theorem dX0_add_5 : decode cX0_add 5 = .ok (.getfield 21, 3) := by decide +kernel
theorem dX0_add_8 : decode cX0_add 8 = .ok (.iload_n 1, 1) := by decide +kernel
theorem dX0_add_9 : decode cX0_add 9 = .ok (.iastore, 1) := by decide +kernel
theorem dX0_add_10 : decode cX0_add 10 = .ok (.aload_n 0, 1) := by decide +kernel
theorem dX0_add_11 : decode cX0_add 11 = .ok (.getfield 15, 3) := by decide +kernel
theorem dX0_add_14 : decode cX0_add 14 = .ok (.aload_n 0, 1) := by decide +kernel
theorem dX0_add_15 : decode cX0_add 15 = .ok (.getfield 21, 3) := by decide +kernel
theorem dX0_add_18 : decode cX0_add 18 = .ok (.iload_n 2, 1) := by decide +kernel
theorem dX0_add_19 : decode cX0_add 19 = .ok (.iastore, 1) := by decide +kernel
theorem dX0_add_20 : decode cX0_add 20 = .ok (.aload_n 0, 1) := by decide +kernel
theorem dX0_add_21 : decode cX0_add 21 = .ok (.getfield 18, 3) := by decide +kernel
theorem dX0_add_24 : decode cX0_add 24 = .ok (.aload_n 0, 1) := by decide +kernel
theorem dX0_add_25 : decode cX0_add 25 = .ok (.getfield 21, 3) := by decide +kernel
theorem dX0_add_28 : decode cX0_add 28 = .ok (.iload_n 3, 1) := by decide +kernel
theorem dX0_add_29 : decode cX0_add 29 = .ok (.iastore, 1) := by decide +kernel
theorem dX0_add_30 : decode cX0_add 30 = .ok (.aload_n 0, 1) := by decide +kernel
theorem dX0_add_31 : decode cX0_add 31 = .ok (.dup, 1) := by decide +kernel
theorem dX0_add_32 : decode cX0_add 32 = .ok (.getfield 21, 3) := by decide +kernel
theorem dX0_add_35 : decode cX0_add 35 = .ok (.iconst 1, 1) := by decide +kernel
theorem dX0_add_36 : decode cX0_add 36 = .ok (.iadd, 1) := by decide +kernel
theorem dX0_add_37 : decode cX0_add 37 = .ok (.putfield 21, 3) := by decide +kernel
theorem dX0_add_40 : decode cX0_add 40 = .ok (.aload_n 0, 1) := by decide +kernel
theorem dX0_add_41 : decode cX0_add 41 = .ok (.getfield 21, 3) := by decide +kernel
theorem dX0_add_44 : decode cX0_add 44 = .ok (.iconst 1, 1) := by decide +kernel
theorem dX0_add_45 : decode cX0_add 45 = .ok (.isub, 1) := by decide +kernel
theorem dX0_add_46 : decode cX0_add 46 = .ok (.ireturn, 1) := by decide +kernel
theorem dX0_anglesAt_0 : decode cX0_anglesAt 0 = .ok (.aload_n 0, 1) := by decide +kernel
theorem dX0_anglesAt_1 : decode cX0_anglesAt 1 = .ok (.getfield 25, 3) := by decide +kernel
theorem dX0_anglesAt_4 : decode cX0_anglesAt 4 = .ok (.iconst 0, 1) := by decide +kernel
theorem dX0_anglesAt_5 : decode cX0_anglesAt 5 = .ok (.iload_n 1, 1) := by decide +kernel
theorem dX0_anglesAt_6 : decode cX0_anglesAt 6 = .ok (.iastore, 1) := by decide +kernel
theorem dX0_anglesAt_7 : decode cX0_anglesAt 7 = .ok (.iconst 1, 1) := by decide +kernel
theorem dX0_anglesAt_8 : decode cX0_anglesAt 8 = .ok (.istore_n 2, 1) := by decide +kernel
theorem dX0_anglesAt_9 : decode cX0_anglesAt 9 = .ok (.iload_n 2, 1) := by decide +kernel
theorem dX0_anglesAt_10 : decode cX0_anglesAt 10 = .ok (.aload_n 0, 1) := by decide +kernel
theorem dX0_anglesAt_11 : decode cX0_anglesAt 11 = .ok (.getfield 21, 3) := by decide +kernel
theorem dX0_anglesAt_14 : decode cX0_anglesAt 14 = .ok (.if_icmp .ge 44, 3) := by decide +kernel
theorem dX0_anglesAt_17 : decode cX0_anglesAt 17 = .ok (.aload_n 0, 1) := by decide +kernel
theorem dX0_anglesAt_18 : decode cX0_anglesAt 18 = .ok (.getfield 28, 3) := by decide +kernel
theorem dX0_anglesAt_21 : decode cX0_anglesAt 21 = .ok (.iload_n 2, 1) := by decide +kernel
theorem dX0_anglesAt_22 : decode cX0_anglesAt 22 = .ok (.aload_n 0, 1) := by decide +kernel
theorem dX0_anglesAt_23 : decode cX0_anglesAt 23 = .ok (.getfield 25, 3) := by decide +kernel
theorem dX0_anglesAt_26 : decode cX0_anglesAt 26 = .ok (.aload_n 0, 1) := by decide +kernel
theorem dX0_anglesAt_27 : decode cX0_anglesAt 27 = .ok (.getfield 9, 3) := by decide +kernel
theorem dX0_anglesAt_30 : decode cX0_anglesAt 30 = .ok (.iload_n 2, 1) := by decide +kernel
theorem dX0_anglesAt_31 : decode cX0_anglesAt 31 = .ok (.iaload, 1) := by decide +kernel
theorem dX0_anglesAt_32 : decode cX0_anglesAt 32 = .ok (.iaload, 1) := by decide +kernel
theorem dX0_anglesAt_33 : decode cX0_anglesAt 33 = .ok (.aload_n 0, 1) := by decide +kernel
theorem dX0_anglesAt_34 : decode cX0_anglesAt 34 = .ok (.getfield 15, 3) := by decide +kernel
theorem dX0_anglesAt_37 : decode cX0_anglesAt 37 = .ok (.iload_n 2, 1) := by decide +kernel
theorem dX0_anglesAt_38 : decode cX0_anglesAt 38 = .ok (.iaload, 1) := by decide +kernel
theorem dX0_anglesAt_39 : decode cX0_anglesAt 39 = .ok (.imul, 1) := by decide +kernel
theorem dX0_anglesAt_40 : decode cX0_anglesAt 40 = .ok (.iastore, 1) := by decide +kernel
theorem dX0_anglesAt_41 : decode cX0_anglesAt 41 = .ok (.aload_n 0, 1) := by decide +kernel
theorem dX0_anglesAt_42 : decode cX0_anglesAt 42 = .ok (.getfield 25, 3) := by decide +kernel
theorem dX0_anglesAt_45 : decode cX0_anglesAt 45 = .ok (.iload_n 2, 1) := by decide +kernel
theorem dX0_anglesAt_46 : decode cX0_anglesAt 46 = .ok (.aload_n 0, 1) := by decide +kernel
theorem dX0_anglesAt_47 : decode cX0_anglesAt 47 = .ok (.iload_n 2, 1) := by decide +kernel
theorem dX0_anglesAt_48 : decode cX0_anglesAt 48 = .ok (.invokevirtual 41, 3) := by decide +kernel
theorem dX0_anglesAt_51 : decode cX0_anglesAt 51 = .ok (.iastore, 1) := by decide +kernel
theorem dX0_anglesAt_52 : decode cX0_anglesAt 52 = .ok (.iinc 2 1, 3) := by decide +kernel
theorem dX0_anglesAt_55 : decode cX0_anglesAt 55 = .ok (.goto (-46), 3) := by decide +kernel
theorem dX0_anglesAt_58 : decode cX0_anglesAt 58 = .ok (.aload_n 0, 1) := by decide +kernel
theorem dX0_anglesAt_59 : decode cX0_anglesAt 59 = .ok (.getfield 25, 3) := by decide +kernel
theorem dX0_anglesAt_62 : decode cX0_anglesAt 62 = .ok (.areturn, 1) := by decide +kernel
theorem dX0_anglesByStepsTo_0 : decode cX0_anglesByStepsTo 0 = .ok (.aload_n 0, 1) := by decide +kernel
theorem dX0_anglesByStepsTo_1 : decode cX0_anglesByStepsTo 1 = .ok (.iconst 0, 1) := by decide +kernel
theorem dX0_anglesByStepsTo_2 : decode cX0_anglesByStepsTo 2 = .ok (.invokevirtual 45, 3) := by decide +kernel
theorem dX0_anglesByStepsTo_5 : decode cX0_anglesByStepsTo 5 = .ok (.pop, 1) := by decide +kernel
theorem dX0_anglesByStepsTo_6 : decode cX0_anglesByStepsTo 6 = .ok (.iconst 1, 1) := by decide +kernel
theorem dX0_anglesByStepsTo_7 : decode cX0_anglesByStepsTo 7 = .ok (.istore_n 2, 1) := by decide +kernel
theorem dX0_anglesByStepsTo_8 : decode cX0_anglesByStepsTo 8 = .ok (.iload_n 2, 1) := by decide +kernel
theorem dX0_anglesByStepsTo_9 : decode cX0_anglesByStepsTo 9 = .ok (.iload_n 1, 1) := by decide +kernel
theorem dX0_anglesByStepsTo_10 : decode cX0_anglesByStepsTo 10 = .ok (.if_icmp .gt 13, 3) := by decide +kernel
theorem dX0_anglesByStepsTo_13 : decode cX0_anglesByStepsTo 13 = .ok (.aload_n 0, 1) := by decide +kernel
theorem dX0_anglesByStepsTo_14 : decode cX0_anglesByStepsTo 14 = .ok (.invokevirtual 49, 3) := by decide +kernel
theorem dX0_anglesByStepsTo_17 : decode cX0_anglesByStepsTo 17 = .ok (.iinc 2 1, 3) := by decide +kernel
theorem dX0_anglesByStepsTo_20 : decode cX0_anglesByStepsTo 20 = .ok (.goto (-12), 3) := by decide +kernel
theorem dX0_anglesByStepsTo_23 : decode cX0_anglesByStepsTo 23 = .ok (.aload_n 0, 1) := by decide +kernel
theorem dX0_anglesByStepsTo_24 : decode cX0_anglesByStepsTo 24 = .ok (.getfield 25, 3) := by decide +kernel
theorem dX0_anglesByStepsTo_27 : decode cX0_anglesByStepsTo 27 = .ok (.areturn, 1) := by decide +kernel
theorem dX0_openOneDegree_0 : decode cX0_openOneDegree 0 = .ok (.aload_n 0, 1) := by decide +kernel
theorem dX0_openOneDegree_1 : decode cX0_openOneDegree 1 = .ok (.getfield 31, 3) := by decide +kernel
theorem dX0_openOneDegree_4 : decode cX0_openOneDegree 4 = .ok (.iconst 0, 1) := by decide +kernel
theorem dX0_openOneDegree_5 : decode cX0_openOneDegree 5 = .ok (.iconst 1, 1) := by decide +kernel
theorem dX0_openOneDegree_6 : decode cX0_openOneDegree 6 = .ok (.iastore, 1) := by decide +kernel
theorem dX0_openOneDegree_7 : decode cX0_openOneDegree 7 = .ok (.aload_n 0, 1) := by decide +kernel
theorem dX0_openOneDegree_8 : decode cX0_openOneDegree 8 = .ok (.getfield 25, 3) := by decide +kernel
theorem dX0_openOneDegree_11 : decode cX0_openOneDegree 11 = .ok (.iconst 0, 1) := by decide +kernel
theorem dX0_openOneDegree_12 : decode cX0_openOneDegree 12 = .ok (.dup2, 1) := by decide +kernel
theorem dX0_openOneDegree_13 : decode cX0_openOneDegree 13 = .ok (.iaload, 1) := by decide +kernel
theorem dX0_openOneDegree_14 : decode cX0_openOneDegree 14 = .ok (.iconst 1, 1) := by decide +kernel
theorem dX0_openOneDegree_15 : decode cX0_openOneDegree 15 = .ok (.iadd, 1) := by decide +kernel
theorem dX0_openOneDegree_16 : decode cX0_openOneDegree 16 = .ok (.iastore, 1) := by decide +kernel
theorem dX0_openOneDegree_17 : decode cX0_openOneDegree 17 = .ok (.iconst 1, 1) := by decide +kernel
theorem dX0_openOneDegree_18 : decode cX0_openOneDegree 18 = .ok (.istore_n 1, 1) := by decide +kernel
theorem dX0_openOneDegree_19 : decode cX0_openOneDegree 19 = .ok (.iload_n 1, 1) := by decide +kernel
theorem dX0_openOneDegree_20 : decode cX0_openOneDegree 20 = .ok (.aload_n 0, 1) := by decide +kernel
theorem dX0_openOneDegree_21 : decode cX0_openOneDegree 21 = .ok (.getfield 21, 3) := by decide +kernel
theorem dX0_openOneDegree_24 : decode cX0_openOneDegree 24 = .ok (.if_icmp .ge 69, 3) := by decide +kernel
theorem dX0_openOneDegree_27 : decode cX0_openOneDegree 27 = .ok (.aload_n 0, 1) := by decide +kernel
theorem dX0_openOneDegree_28 : decode cX0_openOneDegree 28 = .ok (.getfield 28, 3) := by decide +kernel
theorem dX0_openOneDegree_31 : decode cX0_openOneDegree 31 = .ok (.iload_n 1, 1) := by decide +kernel
theorem dX0_openOneDegree_32 : decode cX0_openOneDegree 32 = .ok (.dup2, 1) := by decide +kernel
theorem dX0_openOneDegree_33 : decode cX0_openOneDegree 33 = .ok (.iaload, 1) := by decide +kernel
theorem dX0_openOneDegree_34 : decode cX0_openOneDegree 34 = .ok (.aload_n 0, 1) := by decide +kernel
theorem dX0_openOneDegree_35 : decode cX0_openOneDegree 35 = .ok (.getfield 31, 3) := by decide +kernel
theorem dX0_openOneDegree_38 : decode cX0_openOneDegree 38 = .ok (.aload_n 0, 1) := by decide +kernel
theorem dX0_openOneDegree_39 : decode cX0_openOneDegree 39 = .ok (.getfield 9, 3) := by decide +kernel
theorem dX0_openOneDegree_42 : decode cX0_openOneDegree 42 = .ok (.iload_n 1, 1) := by decide +kernel
theorem dX0_openOneDegree_43 : decode cX0_openOneDegree 43 = .ok (.iaload, 1) := by decide +kernel
theorem dX0_openOneDegree_44 : decode cX0_openOneDegree 44 = .ok (.iaload, 1) := by decide +kernel
theorem dX0_openOneDegree_45 : decode cX0_openOneDegree 45 = .ok (.aload_n 0, 1) := by decide +kernel
theorem dX0_openOneDegree_46 : decode cX0_openOneDegree 46 = .ok (.getfield 15, 3) := by decide +kernel
theorem dX0_openOneDegree_49 : decode cX0_openOneDegree 49 = .ok (.iload_n 1, 1) := by decide +kernel
theorem dX0_openOneDegree_50 : decode cX0_openOneDegree 50 = .ok (.iaload, 1) := by decide +kernel
theorem dX0_openOneDegree_51 : decode cX0_openOneDegree 51 = .ok (.imul, 1) := by decide +kernel
theorem dX0_openOneDegree_52 : decode cX0_openOneDegree 52 = .ok (.iadd, 1) := by decide +kernel
theorem dX0_openOneDegree_53 : decode cX0_openOneDegree 53 = .ok (.iastore, 1) := by decide +kernel
theorem dX0_openOneDegree_54 : decode cX0_openOneDegree 54 = .ok (.aload_n 0, 1) := by decide +kernel
theorem dX0_openOneDegree_55 : decode cX0_openOneDegree 55 = .ok (.getfield 31, 3) := by decide +kernel
theorem dX0_openOneDegree_58 : decode cX0_openOneDegree 58 = .ok (.iload_n 1, 1) := by decide +kernel
theorem dX0_openOneDegree_59 : decode cX0_openOneDegree 59 = .ok (.aload_n 0, 1) := by decide +kernel
theorem dX0_openOneDegree_60 : decode cX0_openOneDegree 60 = .ok (.iload_n 1, 1) := by decide +kernel
theorem dX0_openOneDegree_61 : decode cX0_openOneDegree 61 = .ok (.invokevirtual 41, 3) := by decide +kernel
theorem dX0_openOneDegree_64 : decode cX0_openOneDegree 64 = .ok (.aload_n 0, 1) := by decide +kernel
theorem dX0_openOneDegree_65 : decode cX0_openOneDegree 65 = .ok (.getfield 25, 3) := by decide +kernel
theorem dX0_openOneDegree_68 : decode cX0_openOneDegree 68 = .ok (.iload_n 1, 1) := by decide +kernel
theorem dX0_openOneDegree_69 : decode cX0_openOneDegree 69 = .ok (.iaload, 1) := by decide +kernel
theorem dX0_openOneDegree_70 : decode cX0_openOneDegree 70 = .ok (.isub, 1) := by decide +kernel
theorem dX0_openOneDegree_71 : decode cX0_openOneDegree 71 = .ok (.iastore, 1) := by decide +kernel
theorem dX0_openOneDegree_72 : decode cX0_openOneDegree 72 = .ok (.aload_n 0, 1) := by decide +kernel
theorem dX0_openOneDegree_73 : decode cX0_openOneDegree 73 = .ok (.getfield 25, 3) := by decide +kernel
theorem dX0_openOneDegree_76 : decode cX0_openOneDegree 76 = .ok (.iload_n 1, 1) := by decide +kernel
theorem dX0_openOneDegree_77 : decode cX0_openOneDegree 77 = .ok (.dup2, 1) := by decide +kernel
theorem dX0_openOneDegree_78 : decode cX0_openOneDegree 78 = .ok (.iaload, 1) := by decide +kernel
theorem dX0_openOneDegree_79 : decode cX0_openOneDegree 79 = .ok (.aload_n 0, 1) := by decide +kernel
theorem dX0_openOneDegree_80 : decode cX0_openOneDegree 80 = .ok (.getfield 31, 3) := by decide +kernel
theorem dX0_openOneDegree_83 : decode cX0_openOneDegree 83 = .ok (.iload_n 1, 1) := by decide +kernel
theorem dX0_openOneDegree_84 : decode cX0_openOneDegree 84 = .ok (.iaload, 1) := by decide +kernel
theorem dX0_openOneDegree_85 : decode cX0_openOneDegree 85 = .ok (.iadd, 1) := by decide +kernel
theorem dX0_openOneDegree_86 : decode cX0_openOneDegree 86 = .ok (.iastore, 1) := by decide +kernel
theorem dX0_openOneDegree_87 : decode cX0_openOneDegree 87 = .ok (.iinc 1 1, 3) := by decide +kernel
theorem dX0_openOneDegree_90 : decode cX0_openOneDegree 90 = .ok (.goto (-71), 3) := by decide +kernel
theorem dX0_openOneDegree_93 : decode cX0_openOneDegree 93 = .ok (.return_, 1) := by decide +kernel
theorem dX0_angleOfPulled_0 : decode cX0_angleOfPulled 0 = .ok (.aload_n 0, 1) := by decide +kernel
theorem dX0_angleOfPulled_1 : decode cX0_angleOfPulled 1 = .ok (.getfield 28, 3) := by decide +kernel
theorem dX0_angleOfPulled_4 : decode cX0_angleOfPulled 4 = .ok (.iload_n 1, 1) := by decide +kernel
theorem dX0_angleOfPulled_5 : decode cX0_angleOfPulled 5 = .ok (.iaload, 1) := by decide +kernel
theorem dX0_angleOfPulled_6 : decode cX0_angleOfPulled 6 = .ok (.iconst 4, 1) := by decide +kernel
theorem dX0_angleOfPulled_7 : decode cX0_angleOfPulled 7 = .ok (.invokestatic 52, 3) := by decide +kernel
theorem dX0_angleOfPulled_10 : decode cX0_angleOfPulled 10 = .ok (.aload_n 0, 1) := by decide +kernel
theorem dX0_angleOfPulled_11 : decode cX0_angleOfPulled 11 = .ok (.getfield 18, 3) := by decide +kernel
theorem dX0_angleOfPulled_14 : decode cX0_angleOfPulled 14 = .ok (.iload_n 1, 1) := by decide +kernel
theorem dX0_angleOfPulled_15 : decode cX0_angleOfPulled 15 = .ok (.iaload, 1) := by decide +kernel
theorem dX0_angleOfPulled_16 : decode cX0_angleOfPulled 16 = .ok (.iadd, 1) := by decide +kernel
theorem dX0_angleOfPulled_17 : decode cX0_angleOfPulled 17 = .ok (.istore_n 2, 1) := by decide +kernel
theorem dX0_angleOfPulled_18 : decode cX0_angleOfPulled 18 = .ok (.iconst 0, 1) := by decide +kernel
theorem dX0_angleOfPulled_19 : decode cX0_angleOfPulled 19 = .ok (.sipush 180, 3) := by decide +kernel
theorem dX0_angleOfPulled_22 : decode cX0_angleOfPulled 22 = .ok (.iload_n 2, 1) := by decide +kernel
theorem dX0_angleOfPulled_23 : decode cX0_angleOfPulled 23 = .ok (.invokestatic 58, 3) := by decide +kernel
theorem dX0_angleOfPulled_26 : decode cX0_angleOfPulled 26 = .ok (.invokestatic 61, 3) := by decide +kernel
theorem dX0_angleOfPulled_29 : decode cX0_angleOfPulled 29 = .ok (.ireturn, 1) := by decide +kernel
theorem dX0_signAt_0 : decode cX0_signAt 0 = .ok (.aload_n 0, 1) := by decide +kernel
theorem dX0_signAt_1 : decode cX0_signAt 1 = .ok (.getfield 37, 3) := by decide +kernel
theorem dX0_signAt_4 : decode cX0_signAt 4 = .ok (.iconst 0, 1) := by decide +kernel
theorem dX0_signAt_5 : decode cX0_signAt 5 = .ok (.invokevirtual 64, 3) := by decide +kernel
theorem dX0_signAt_8 : decode cX0_signAt 8 = .ok (.iload_n 1, 1) := by decide +kernel
theorem dX0_signAt_9 : decode cX0_signAt 9 = .ok (.istore_n 3, 1) := by decide +kernel
theorem dX0_signAt_10 : decode cX0_signAt 10 = .ok (.iconst 0, 1) := by decide +kernel
theorem dX0_signAt_11 : decode cX0_signAt 11 = .ok (.istore 4, 2) := by decide +kernel
theorem dX0_signAt_13 : decode cX0_signAt 13 = .ok (.iload 4, 2) := by decide +kernel
theorem dX0_signAt_15 : decode cX0_signAt 15 = .ok (.bipush 12, 2) := by decide +kernel
theorem dX0_signAt_17 : decode cX0_signAt 17 = .ok (.if_icmp .ge 25, 3) := by decide +kernel
theorem dX0_signAt_20 : decode cX0_signAt 20 = .ok (.iload_n 3, 1) := by decide +kernel
theorem dX0_signAt_21 : decode cX0_signAt 21 = .ok (.ifCond .le 21, 3) := by decide +kernel
theorem dX0_signAt_24 : decode cX0_signAt 24 = .ok (.aload_n 0, 1) := by decide +kernel
theorem dX0_signAt_25 : decode cX0_signAt 25 = .ok (.iload_n 3, 1) := by decide +kernel
theorem dX0_signAt_26 : decode cX0_signAt 26 = .ok (.invokevirtual 68, 3) := by decide +kernel
theorem dX0_signAt_29 : decode cX0_signAt 29 = .ok (.aload_n 0, 1) := by decide +kernel
theorem dX0_signAt_30 : decode cX0_signAt 30 = .ok (.getfield 9, 3) := by decide +kernel
theorem dX0_signAt_33 : decode cX0_signAt 33 = .ok (.iload_n 3, 1) := by decide +kernel
theorem dX0_signAt_34 : decode cX0_signAt 34 = .ok (.iaload, 1) := by decide +kernel
theorem dX0_signAt_35 : decode cX0_signAt 35 = .ok (.istore_n 3, 1) := by decide +kernel
theorem dX0_signAt_36 : decode cX0_signAt 36 = .ok (.iinc 4 1, 3) := by decide +kernel
theorem dX0_signAt_39 : decode cX0_signAt 39 = .ok (.goto (-26), 3) := by decide +kernel
theorem dX0_signAt_42 : decode cX0_signAt 42 = .ok (.aload_n 0, 1) := by decide +kernel
theorem dX0_signAt_43 : decode cX0_signAt 43 = .ok (.getfield 37, 3) := by decide +kernel
theorem dX0_signAt_46 : decode cX0_signAt 46 = .ok (.ldc 71, 2) := by decide +kernel
theorem dX0_signAt_48 : decode cX0_signAt 48 = .ok (.invokevirtual 73, 3) := by decide +kernel
theorem dX0_signAt_51 : decode cX0_signAt 51 = .ok (.pop, 1) := by decide +kernel
theorem dX0_signAt_52 : decode cX0_signAt 52 = .ok (.iload_n 2, 1) := by decide +kernel
theorem dX0_signAt_53 : decode cX0_signAt 53 = .ok (.aload_n 0, 1) := by decide +kernel
theorem dX0_signAt_54 : decode cX0_signAt 54 = .ok (.getfield 37, 3) := by decide +kernel
theorem dX0_signAt_57 : decode cX0_signAt 57 = .ok (.invokevirtual 77, 3) := by decide +kernel
theorem dX0_signAt_60 : decode cX0_signAt 60 = .ok (.if_icmp .ge 14, 3) := by decide +kernel
theorem dX0_signAt_63 : decode cX0_signAt 63 = .ok (.aload_n 0, 1) := by decide +kernel
theorem dX0_signAt_64 : decode cX0_signAt 64 = .ok (.getfield 37, 3) := by decide +kernel
theorem dX0_signAt_67 : decode cX0_signAt 67 = .ok (.iload_n 2, 1) := by decide +kernel
theorem dX0_signAt_68 : decode cX0_signAt 68 = .ok (.invokevirtual 81, 3) := by decide +kernel
theorem dX0_signAt_71 : decode cX0_signAt 71 = .ok (.goto 4, 3) := by decide +kernel
theorem dX0_signAt_74 : decode cX0_signAt 74 = .ok (.iconst 0, 1) := by decide +kernel
theorem dX0_signAt_75 : decode cX0_signAt 75 = .ok (.ireturn, 1) := by decide +kernel
theorem dX0_writeHanging_0 : decode cX0_writeHanging 0 = .ok (.aload_n 0, 1) := by decide +kernel
theorem dX0_writeHanging_1 : decode cX0_writeHanging 1 = .ok (.getfield 37, 3) := by decide +kernel
theorem dX0_writeHanging_4 : decode cX0_writeHanging 4 = .ok (.bipush 102, 2) := by decide +kernel
theorem dX0_writeHanging_6 : decode cX0_writeHanging 6 = .ok (.invokevirtual 85, 3) := by decide +kernel
theorem dX0_writeHanging_9 : decode cX0_writeHanging 9 = .ok (.iload_n 1, 1) := by decide +kernel
theorem dX0_writeHanging_10 : decode cX0_writeHanging 10 = .ok (.invokevirtual 88, 3) := by decide +kernel
theorem dX0_writeHanging_13 : decode cX0_writeHanging 13 = .ok (.pop, 1) := by decide +kernel
theorem dX0_writeHanging_14 : decode cX0_writeHanging 14 = .ok (.aload_n 0, 1) := by decide +kernel
theorem dX0_writeHanging_15 : decode cX0_writeHanging 15 = .ok (.getfield 37, 3) := by decide +kernel
theorem dX0_writeHanging_18 : decode cX0_writeHanging 18 = .ok (.bipush 42, 2) := by decide +kernel
theorem dX0_writeHanging_20 : decode cX0_writeHanging 20 = .ok (.invokevirtual 85, 3) := by decide +kernel
theorem dX0_writeHanging_23 : decode cX0_writeHanging 23 = .ok (.aload_n 0, 1) := by decide +kernel
theorem dX0_writeHanging_24 : decode cX0_writeHanging 24 = .ok (.getfield 15, 3) := by decide +kernel
theorem dX0_writeHanging_27 : decode cX0_writeHanging 27 = .ok (.iload_n 1, 1) := by decide +kernel
theorem dX0_writeHanging_28 : decode cX0_writeHanging 28 = .ok (.iaload, 1) := by decide +kernel
theorem dX0_writeHanging_29 : decode cX0_writeHanging 29 = .ok (.invokevirtual 88, 3) := by decide +kernel
theorem dX0_writeHanging_32 : decode cX0_writeHanging 32 = .ok (.pop, 1) := by decide +kernel
theorem dX0_writeHanging_33 : decode cX0_writeHanging 33 = .ok (.aload_n 0, 1) := by decide +kernel
theorem dX0_writeHanging_34 : decode cX0_writeHanging 34 = .ok (.getfield 37, 3) := by decide +kernel
theorem dX0_writeHanging_37 : decode cX0_writeHanging 37 = .ok (.aload_n 0, 1) := by decide +kernel
theorem dX0_writeHanging_38 : decode cX0_writeHanging 38 = .ok (.getfield 18, 3) := by decide +kernel
theorem dX0_writeHanging_41 : decode cX0_writeHanging 41 = .ok (.iload_n 1, 1) := by decide +kernel
theorem dX0_writeHanging_42 : decode cX0_writeHanging 42 = .ok (.iaload, 1) := by decide +kernel
theorem dX0_writeHanging_43 : decode cX0_writeHanging 43 = .ok (.ifCond .ge 8, 3) := by decide +kernel
theorem dX0_writeHanging_46 : decode cX0_writeHanging 46 = .ok (.bipush 45, 2) := by decide +kernel
theorem dX0_writeHanging_48 : decode cX0_writeHanging 48 = .ok (.goto 5, 3) := by decide +kernel
theorem dX0_writeHanging_51 : decode cX0_writeHanging 51 = .ok (.bipush 43, 2) := by decide +kernel
theorem dX0_writeHanging_53 : decode cX0_writeHanging 53 = .ok (.invokevirtual 85, 3) := by decide +kernel
theorem dX0_writeHanging_56 : decode cX0_writeHanging 56 = .ok (.aload_n 0, 1) := by decide +kernel
theorem dX0_writeHanging_57 : decode cX0_writeHanging 57 = .ok (.getfield 18, 3) := by decide +kernel
theorem dX0_writeHanging_60 : decode cX0_writeHanging 60 = .ok (.iload_n 1, 1) := by decide +kernel
theorem dX0_writeHanging_61 : decode cX0_writeHanging 61 = .ok (.iaload, 1) := by decide +kernel
theorem dX0_writeHanging_62 : decode cX0_writeHanging 62 = .ok (.invokestatic 91, 3) := by decide +kernel
theorem dX0_writeHanging_65 : decode cX0_writeHanging 65 = .ok (.invokevirtual 88, 3) := by decide +kernel
theorem dX0_writeHanging_68 : decode cX0_writeHanging 68 = .ok (.pop, 1) := by decide +kernel
theorem dX0_writeHanging_69 : decode cX0_writeHanging 69 = .ok (.aload_n 0, 1) := by decide +kernel
theorem dX0_writeHanging_70 : decode cX0_writeHanging 70 = .ok (.getfield 37, 3) := by decide +kernel
theorem dX0_writeHanging_73 : decode cX0_writeHanging 73 = .ok (.ldc 94, 2) := by decide +kernel
theorem dX0_writeHanging_75 : decode cX0_writeHanging 75 = .ok (.invokevirtual 73, 3) := by decide +kernel
theorem dX0_writeHanging_78 : decode cX0_writeHanging 78 = .ok (.pop, 1) := by decide +kernel
theorem dX0_writeHanging_79 : decode cX0_writeHanging 79 = .ok (.return_, 1) := by decide +kernel
theorem dX1_init_0 : decode cX1_init 0 = .ok (.aload_n 0, 1) := by decide +kernel
theorem dX1_init_1 : decode cX1_init 1 = .ok (.invokespecial 3, 3) := by decide +kernel
theorem dX1_init_4 : decode cX1_init 4 = .ok (.aload_n 0, 1) := by decide +kernel
theorem dX1_init_5 : decode cX1_init 5 = .ok (.bipush 16, 2) := by decide +kernel
theorem dX1_init_7 : decode cX1_init 7 = .ok (.newarray .int, 2) := by decide +kernel
theorem dX1_init_9 : decode cX1_init 9 = .ok (.putfield 9, 3) := by decide +kernel
theorem dX1_init_12 : decode cX1_init 12 = .ok (.return_, 1) := by decide +kernel
theorem dX1_push_0 : decode cX1_push 0 = .ok (.aload_n 0, 1) := by decide +kernel
theorem dX1_push_1 : decode cX1_push 1 = .ok (.getfield 9, 3) := by decide +kernel
theorem dX1_push_4 : decode cX1_push 4 = .ok (.aload_n 0, 1) := by decide +kernel
theorem dX1_push_5 : decode cX1_push 5 = .ok (.getfield 15, 3) := by decide +kernel
theorem dX1_push_8 : decode cX1_push 8 = .ok (.iload_n 1, 1) := by decide +kernel
theorem dX1_push_9 : decode cX1_push 9 = .ok (.iastore, 1) := by decide +kernel
theorem dX1_push_10 : decode cX1_push 10 = .ok (.aload_n 0, 1) := by decide +kernel
theorem dX1_push_11 : decode cX1_push 11 = .ok (.dup, 1) := by decide +kernel
theorem dX1_push_12 : decode cX1_push 12 = .ok (.getfield 15, 3) := by decide +kernel
theorem dX1_push_15 : decode cX1_push 15 = .ok (.iconst 1, 1) := by decide +kernel
theorem dX1_push_16 : decode cX1_push 16 = .ok (.iadd, 1) := by decide +kernel
theorem dX1_push_17 : decode cX1_push 17 = .ok (.putfield 15, 3) := by decide +kernel
theorem dX1_push_20 : decode cX1_push 20 = .ok (.aload_n 0, 1) := by decide +kernel
theorem dX1_push_21 : decode cX1_push 21 = .ok (.getfield 15, 3) := by decide +kernel
theorem dX1_push_24 : decode cX1_push 24 = .ok (.ireturn, 1) := by decide +kernel
theorem dX1_cutTo_0 : decode cX1_cutTo 0 = .ok (.aload_n 0, 1) := by decide +kernel
theorem dX1_cutTo_1 : decode cX1_cutTo 1 = .ok (.getfield 15, 3) := by decide +kernel
theorem dX1_cutTo_4 : decode cX1_cutTo 4 = .ok (.iload_n 1, 1) := by decide +kernel
theorem dX1_cutTo_5 : decode cX1_cutTo 5 = .ok (.isub, 1) := by decide +kernel
theorem dX1_cutTo_6 : decode cX1_cutTo 6 = .ok (.istore_n 2, 1) := by decide +kernel
theorem dX1_cutTo_7 : decode cX1_cutTo 7 = .ok (.aload_n 0, 1) := by decide +kernel
theorem dX1_cutTo_8 : decode cX1_cutTo 8 = .ok (.iload_n 1, 1) := by decide +kernel
theorem dX1_cutTo_9 : decode cX1_cutTo 9 = .ok (.putfield 15, 3) := by decide +kernel
theorem dX1_cutTo_12 : decode cX1_cutTo 12 = .ok (.iload_n 2, 1) := by decide +kernel
theorem dX1_cutTo_13 : decode cX1_cutTo 13 = .ok (.ireturn, 1) := by decide +kernel
theorem dX1_partAt_0 : decode cX1_partAt 0 = .ok (.iload_n 1, 1) := by decide +kernel
theorem dX1_partAt_1 : decode cX1_partAt 1 = .ok (.ifCond .lt 20, 3) := by decide +kernel
theorem dX1_partAt_4 : decode cX1_partAt 4 = .ok (.iload_n 1, 1) := by decide +kernel
theorem dX1_partAt_5 : decode cX1_partAt 5 = .ok (.aload_n 0, 1) := by decide +kernel
theorem dX1_partAt_6 : decode cX1_partAt 6 = .ok (.getfield 15, 3) := by decide +kernel
theorem dX1_partAt_9 : decode cX1_partAt 9 = .ok (.if_icmp .ge 12, 3) := by decide +kernel
theorem dX1_partAt_12 : decode cX1_partAt 12 = .ok (.aload_n 0, 1) := by decide +kernel
theorem dX1_partAt_13 : decode cX1_partAt 13 = .ok (.getfield 9, 3) := by decide +kernel
theorem dX1_partAt_16 : decode cX1_partAt 16 = .ok (.iload_n 1, 1) := by decide +kernel
theorem dX1_partAt_17 : decode cX1_partAt 17 = .ok (.iaload, 1) := by decide +kernel
theorem dX1_partAt_18 : decode cX1_partAt 18 = .ok (.goto 4, 3) := by decide +kernel
theorem dX1_partAt_21 : decode cX1_partAt 21 = .ok (.iconst (-1), 1) := by decide +kernel
theorem dX1_partAt_22 : decode cX1_partAt 22 = .ok (.ireturn, 1) := by decide +kernel
theorem dX1_stepOf_0 : decode cX1_stepOf 0 = .ok (.iconst 0, 1) := by decide +kernel
theorem dX1_stepOf_1 : decode cX1_stepOf 1 = .ok (.istore_n 2, 1) := by decide +kernel
theorem dX1_stepOf_2 : decode cX1_stepOf 2 = .ok (.iload_n 2, 1) := by decide +kernel
theorem dX1_stepOf_3 : decode cX1_stepOf 3 = .ok (.aload_n 0, 1) := by decide +kernel
theorem dX1_stepOf_4 : decode cX1_stepOf 4 = .ok (.getfield 15, 3) := by decide +kernel
theorem dX1_stepOf_7 : decode cX1_stepOf 7 = .ok (.if_icmp .ge 21, 3) := by decide +kernel
theorem dX1_stepOf_10 : decode cX1_stepOf 10 = .ok (.aload_n 0, 1) := by decide +kernel
theorem dX1_stepOf_11 : decode cX1_stepOf 11 = .ok (.getfield 9, 3) := by decide +kernel
theorem dX1_stepOf_14 : decode cX1_stepOf 14 = .ok (.iload_n 2, 1) := by decide +kernel
theorem dX1_stepOf_15 : decode cX1_stepOf 15 = .ok (.iaload, 1) := by decide +kernel
theorem dX1_stepOf_16 : decode cX1_stepOf 16 = .ok (.iload_n 1, 1) := by decide +kernel
theorem dX1_stepOf_17 : decode cX1_stepOf 17 = .ok (.if_icmp .ne 5, 3) := by decide +kernel
theorem dX1_stepOf_20 : decode cX1_stepOf 20 = .ok (.iload_n 2, 1) := by decide +kernel
theorem dX1_stepOf_21 : decode cX1_stepOf 21 = .ok (.ireturn, 1) := by decide +kernel
theorem dX1_stepOf_22 : decode cX1_stepOf 22 = .ok (.iinc 2 1, 3) := by decide +kernel
theorem dX1_stepOf_25 : decode cX1_stepOf 25 = .ok (.goto (-23), 3) := by decide +kernel
theorem dX1_stepOf_28 : decode cX1_stepOf 28 = .ok (.iconst (-1), 1) := by decide +kernel
theorem dX1_stepOf_29 : decode cX1_stepOf 29 = .ok (.ireturn, 1) := by decide +kernel
theorem dX2_init_0 : decode cX2_init 0 = .ok (.aload_n 0, 1) := by decide +kernel
theorem dX2_init_1 : decode cX2_init 1 = .ok (.invokespecial 3, 3) := by decide +kernel
theorem dX2_init_4 : decode cX2_init 4 = .ok (.aload_n 0, 1) := by decide +kernel
theorem dX2_init_5 : decode cX2_init 5 = .ok (.bipush 16, 2) := by decide +kernel
theorem dX2_init_7 : decode cX2_init 7 = .ok (.newarray .int, 2) := by decide +kernel
theorem dX2_init_9 : decode cX2_init 9 = .ok (.putfield 9, 3) := by decide +kernel
theorem dX2_init_12 : decode cX2_init 12 = .ok (.aload_n 0, 1) := by decide +kernel
theorem dX2_init_13 : decode cX2_init 13 = .ok (.bipush 16, 2) := by decide +kernel
theorem dX2_init_15 : decode cX2_init 15 = .ok (.newarray .int, 2) := by decide +kernel
theorem dX2_init_17 : decode cX2_init 17 = .ok (.putfield 15, 3) := by decide +kernel
theorem dX2_init_20 : decode cX2_init 20 = .ok (.aload_n 0, 1) := by decide +kernel
theorem dX2_init_21 : decode cX2_init 21 = .ok (.bipush 16, 2) := by decide +kernel
theorem dX2_init_23 : decode cX2_init 23 = .ok (.newarray .int, 2) := by decide +kernel
theorem dX2_init_25 : decode cX2_init 25 = .ok (.putfield 18, 3) := by decide +kernel
theorem dX2_init_28 : decode cX2_init 28 = .ok (.aload_n 0, 1) := by decide +kernel
theorem dX2_init_29 : decode cX2_init 29 = .ok (.bipush 16, 2) := by decide +kernel
theorem dX2_init_31 : decode cX2_init 31 = .ok (.newarray .int, 2) := by decide +kernel
theorem dX2_init_33 : decode cX2_init 33 = .ok (.putfield 21, 3) := by decide +kernel
theorem dX2_init_36 : decode cX2_init 36 = .ok (.aload_n 0, 1) := by decide +kernel
theorem dX2_init_37 : decode cX2_init 37 = .ok (.bipush 16, 2) := by decide +kernel
theorem dX2_init_39 : decode cX2_init 39 = .ok (.newarray .int, 2) := by decide +kernel
theorem dX2_init_41 : decode cX2_init 41 = .ok (.putfield 24, 3) := by decide +kernel
theorem dX2_init_44 : decode cX2_init 44 = .ok (.aload_n 0, 1) := by decide +kernel
theorem dX2_init_45 : decode cX2_init 45 = .ok (.bipush 16, 2) := by decide +kernel
theorem dX2_init_47 : decode cX2_init 47 = .ok (.newarray .int, 2) := by decide +kernel
theorem dX2_init_49 : decode cX2_init 49 = .ok (.putfield 27, 3) := by decide +kernel
theorem dX2_init_52 : decode cX2_init 52 = .ok (.aload_n 0, 1) := by decide +kernel
theorem dX2_init_53 : decode cX2_init 53 = .ok (.bipush 16, 2) := by decide +kernel
theorem dX2_init_55 : decode cX2_init 55 = .ok (.newarray .int, 2) := by decide +kernel
theorem dX2_init_57 : decode cX2_init 57 = .ok (.putfield 30, 3) := by decide +kernel
theorem dX2_init_60 : decode cX2_init 60 = .ok (.aload_n 0, 1) := by decide +kernel
theorem dX2_init_61 : decode cX2_init 61 = .ok (.bipush 16, 2) := by decide +kernel
theorem dX2_init_63 : decode cX2_init 63 = .ok (.newarray .int, 2) := by decide +kernel
theorem dX2_init_65 : decode cX2_init 65 = .ok (.putfield 33, 3) := by decide +kernel
theorem dX2_init_68 : decode cX2_init 68 = .ok (.return_, 1) := by decide +kernel
theorem dX2_clear_0 : decode cX2_clear 0 = .ok (.aload_n 0, 1) := by decide +kernel
theorem dX2_clear_1 : decode cX2_clear 1 = .ok (.iconst 0, 1) := by decide +kernel
theorem dX2_clear_2 : decode cX2_clear 2 = .ok (.putfield 36, 3) := by decide +kernel
theorem dX2_clear_5 : decode cX2_clear 5 = .ok (.aload_n 0, 1) := by decide +kernel
theorem dX2_clear_6 : decode cX2_clear 6 = .ok (.iconst 0, 1) := by decide +kernel
theorem dX2_clear_7 : decode cX2_clear 7 = .ok (.putfield 40, 3) := by decide +kernel
theorem dX2_clear_10 : decode cX2_clear 10 = .ok (.return_, 1) := by decide +kernel
theorem dX2_lay_0 : decode cX2_lay 0 = .ok (.aload_n 0, 1) := by decide +kernel
theorem dX2_lay_1 : decode cX2_lay 1 = .ok (.iload_n 2, 1) := by decide +kernel
theorem dX2_lay_2 : decode cX2_lay 2 = .ok (.iload_n 3, 1) := by decide +kernel
theorem dX2_lay_3 : decode cX2_lay 3 = .ok (.invokevirtual 43, 3) := by decide +kernel
theorem dX2_lay_6 : decode cX2_lay 6 = .ok (.istore 4, 2) := by decide +kernel
theorem dX2_lay_8 : decode cX2_lay 8 = .ok (.iload 4, 2) := by decide +kernel
theorem dX2_lay_10 : decode cX2_lay 10 = .ok (.iconst (-1), 1) := by decide +kernel
theorem dX2_lay_11 : decode cX2_lay 11 = .ok (.if_icmp .ne 10, 3) := by decide +kernel
theorem dX2_lay_14 : decode cX2_lay 14 = .ok (.aload_n 0, 1) := by decide +kernel
theorem dX2_lay_15 : decode cX2_lay 15 = .ok (.iload_n 3, 1) := by decide +kernel
theorem dX2_lay_16 : decode cX2_lay 16 = .ok (.invokevirtual 47, 3) := by decide +kernel
theorem dX2_lay_19 : decode cX2_lay 19 = .ok (.istore 4, 2) := by decide +kernel
theorem dX2_lay_21 : decode cX2_lay 21 = .ok (.aload_n 0, 1) := by decide +kernel
theorem dX2_lay_22 : decode cX2_lay 22 = .ok (.getfield 9, 3) := by decide +kernel
theorem dX2_lay_25 : decode cX2_lay 25 = .ok (.iload_n 1, 1) := by decide +kernel
theorem dX2_lay_26 : decode cX2_lay 26 = .ok (.aload_n 0, 1) := by decide +kernel
theorem dX2_lay_27 : decode cX2_lay 27 = .ok (.getfield 21, 3) := by decide +kernel
theorem dX2_lay_30 : decode cX2_lay 30 = .ok (.iload 4, 2) := by decide +kernel
theorem dX2_lay_32 : decode cX2_lay 32 = .ok (.iaload, 1) := by decide +kernel
theorem dX2_lay_33 : decode cX2_lay 33 = .ok (.iastore, 1) := by decide +kernel
theorem dX2_lay_34 : decode cX2_lay 34 = .ok (.aload_n 0, 1) := by decide +kernel
theorem dX2_lay_35 : decode cX2_lay 35 = .ok (.getfield 15, 3) := by decide +kernel
theorem dX2_lay_38 : decode cX2_lay 38 = .ok (.iload_n 1, 1) := by decide +kernel
theorem dX2_lay_39 : decode cX2_lay 39 = .ok (.aload_n 0, 1) := by decide +kernel
theorem dX2_lay_40 : decode cX2_lay 40 = .ok (.getfield 30, 3) := by decide +kernel
theorem dX2_lay_43 : decode cX2_lay 43 = .ok (.iload 4, 2) := by decide +kernel
theorem dX2_lay_45 : decode cX2_lay 45 = .ok (.iaload, 1) := by decide +kernel
theorem dX2_lay_46 : decode cX2_lay 46 = .ok (.iastore, 1) := by decide +kernel
theorem dX2_lay_47 : decode cX2_lay 47 = .ok (.aload_n 0, 1) := by decide +kernel
theorem dX2_lay_48 : decode cX2_lay 48 = .ok (.getfield 18, 3) := by decide +kernel
theorem dX2_lay_51 : decode cX2_lay 51 = .ok (.iload_n 1, 1) := by decide +kernel
theorem dX2_lay_52 : decode cX2_lay 52 = .ok (.aload_n 0, 1) := by decide +kernel
theorem dX2_lay_53 : decode cX2_lay 53 = .ok (.getfield 24, 3) := by decide +kernel
theorem dX2_lay_56 : decode cX2_lay 56 = .ok (.iload 4, 2) := by decide +kernel
theorem dX2_lay_58 : decode cX2_lay 58 = .ok (.iaload, 1) := by decide +kernel
theorem dX2_lay_59 : decode cX2_lay 59 = .ok (.iastore, 1) := by decide +kernel
theorem dX2_lay_60 : decode cX2_lay 60 = .ok (.aload_n 0, 1) := by decide +kernel
theorem dX2_lay_61 : decode cX2_lay 61 = .ok (.getfield 30, 3) := by decide +kernel
theorem dX2_lay_64 : decode cX2_lay 64 = .ok (.iload 4, 2) := by decide +kernel
theorem dX2_lay_66 : decode cX2_lay 66 = .ok (.dup2, 1) := by decide +kernel
theorem dX2_lay_67 : decode cX2_lay 67 = .ok (.iaload, 1) := by decide +kernel
theorem dX2_lay_68 : decode cX2_lay 68 = .ok (.iload_n 2, 1) := by decide +kernel
theorem dX2_lay_69 : decode cX2_lay 69 = .ok (.iadd, 1) := by decide +kernel
theorem dX2_lay_70 : decode cX2_lay 70 = .ok (.iastore, 1) := by decide +kernel
theorem dX2_lay_71 : decode cX2_lay 71 = .ok (.return_, 1) := by decide +kernel
theorem dX2_firstShelfFor_0 : decode cX2_firstShelfFor 0 = .ok (.iconst 0, 1) := by decide +kernel
theorem dX2_firstShelfFor_1 : decode cX2_firstShelfFor 1 = .ok (.istore_n 3, 1) := by decide +kernel
theorem dX2_firstShelfFor_2 : decode cX2_firstShelfFor 2 = .ok (.iload_n 3, 1) := by decide +kernel
theorem dX2_firstShelfFor_3 : decode cX2_firstShelfFor 3 = .ok (.aload_n 0, 1) := by decide +kernel
theorem dX2_firstShelfFor_4 : decode cX2_firstShelfFor 4 = .ok (.getfield 40, 3) := by decide +kernel
theorem dX2_firstShelfFor_7 : decode cX2_firstShelfFor 7 = .ok (.if_icmp .ge 66, 3) := by decide +kernel
theorem dX2_firstShelfFor_10 : decode cX2_firstShelfFor 10 = .ok (.iconst 0, 1) := by decide +kernel
theorem dX2_firstShelfFor_11 : decode cX2_firstShelfFor 11 = .ok (.istore 4, 2) := by decide +kernel
theorem dX2_firstShelfFor_13 : decode cX2_firstShelfFor 13 = .ok (.iload 4, 2) := by decide +kernel
theorem dX2_firstShelfFor_15 : decode cX2_firstShelfFor 15 = .ok (.aload_n 0, 1) := by decide +kernel
theorem dX2_firstShelfFor_16 : decode cX2_firstShelfFor 16 = .ok (.getfield 36, 3) := by decide +kernel
theorem dX2_firstShelfFor_19 : decode cX2_firstShelfFor 19 = .ok (.if_icmp .ge 48, 3) := by decide +kernel
theorem dX2_firstShelfFor_22 : decode cX2_firstShelfFor 22 = .ok (.aload_n 0, 1) := by decide +kernel
theorem dX2_firstShelfFor_23 : decode cX2_firstShelfFor 23 = .ok (.getfield 21, 3) := by decide +kernel
theorem dX2_firstShelfFor_26 : decode cX2_firstShelfFor 26 = .ok (.iload 4, 2) := by decide +kernel
theorem dX2_firstShelfFor_28 : decode cX2_firstShelfFor 28 = .ok (.iaload, 1) := by decide +kernel
theorem dX2_firstShelfFor_29 : decode cX2_firstShelfFor 29 = .ok (.iload_n 3, 1) := by decide +kernel
theorem dX2_firstShelfFor_30 : decode cX2_firstShelfFor 30 = .ok (.if_icmp .ne 31, 3) := by decide +kernel
theorem dX2_firstShelfFor_33 : decode cX2_firstShelfFor 33 = .ok (.aload_n 0, 1) := by decide +kernel
theorem dX2_firstShelfFor_34 : decode cX2_firstShelfFor 34 = .ok (.getfield 27, 3) := by decide +kernel
theorem dX2_firstShelfFor_37 : decode cX2_firstShelfFor 37 = .ok (.iload 4, 2) := by decide +kernel
theorem dX2_firstShelfFor_39 : decode cX2_firstShelfFor 39 = .ok (.iaload, 1) := by decide +kernel
theorem dX2_firstShelfFor_40 : decode cX2_firstShelfFor 40 = .ok (.iload_n 2, 1) := by decide +kernel
theorem dX2_firstShelfFor_41 : decode cX2_firstShelfFor 41 = .ok (.if_icmp .lt 20, 3) := by decide +kernel
theorem dX2_firstShelfFor_44 : decode cX2_firstShelfFor 44 = .ok (.bipush 40, 2) := by decide +kernel
theorem dX2_firstShelfFor_46 : decode cX2_firstShelfFor 46 = .ok (.aload_n 0, 1) := by decide +kernel
theorem dX2_firstShelfFor_47 : decode cX2_firstShelfFor 47 = .ok (.getfield 30, 3) := by decide +kernel
theorem dX2_firstShelfFor_50 : decode cX2_firstShelfFor 50 = .ok (.iload 4, 2) := by decide +kernel
theorem dX2_firstShelfFor_52 : decode cX2_firstShelfFor 52 = .ok (.iaload, 1) := by decide +kernel
theorem dX2_firstShelfFor_53 : decode cX2_firstShelfFor 53 = .ok (.isub, 1) := by decide +kernel
theorem dX2_firstShelfFor_54 : decode cX2_firstShelfFor 54 = .ok (.iload_n 1, 1) := by decide +kernel
theorem dX2_firstShelfFor_55 : decode cX2_firstShelfFor 55 = .ok (.if_icmp .lt 6, 3) := by decide +kernel
theorem dX2_firstShelfFor_58 : decode cX2_firstShelfFor 58 = .ok (.iload 4, 2) := by decide +kernel
theorem dX2_firstShelfFor_60 : decode cX2_firstShelfFor 60 = .ok (.ireturn, 1) := by decide +kernel
theorem dX2_firstShelfFor_61 : decode cX2_firstShelfFor 61 = .ok (.iinc 4 1, 3) := by decide +kernel
theorem dX2_firstShelfFor_64 : decode cX2_firstShelfFor 64 = .ok (.goto (-51), 3) := by decide +kernel
theorem dX2_firstShelfFor_67 : decode cX2_firstShelfFor 67 = .ok (.iinc 3 1, 3) := by decide +kernel
theorem dX2_firstShelfFor_70 : decode cX2_firstShelfFor 70 = .ok (.goto (-68), 3) := by decide +kernel
theorem dX2_firstShelfFor_73 : decode cX2_firstShelfFor 73 = .ok (.iconst (-1), 1) := by decide +kernel
theorem dX2_firstShelfFor_74 : decode cX2_firstShelfFor 74 = .ok (.ireturn, 1) := by decide +kernel
theorem dX2_beginShelf_0 : decode cX2_beginShelf 0 = .ok (.aload_n 0, 1) := by decide +kernel
theorem dX2_beginShelf_1 : decode cX2_beginShelf 1 = .ok (.iload_n 1, 1) := by decide +kernel
theorem dX2_beginShelf_2 : decode cX2_beginShelf 2 = .ok (.invokevirtual 51, 3) := by decide +kernel
theorem dX2_beginShelf_5 : decode cX2_beginShelf 5 = .ok (.istore_n 2, 1) := by decide +kernel
theorem dX2_beginShelf_6 : decode cX2_beginShelf 6 = .ok (.iload_n 2, 1) := by decide +kernel
theorem dX2_beginShelf_7 : decode cX2_beginShelf 7 = .ok (.iconst (-1), 1) := by decide +kernel
theorem dX2_beginShelf_8 : decode cX2_beginShelf 8 = .ok (.if_icmp .ne 8, 3) := by decide +kernel
theorem dX2_beginShelf_11 : decode cX2_beginShelf 11 = .ok (.aload_n 0, 1) := by decide +kernel
theorem dX2_beginShelf_12 : decode cX2_beginShelf 12 = .ok (.invokevirtual 54, 3) := by decide +kernel
theorem dX2_beginShelf_15 : decode cX2_beginShelf 15 = .ok (.istore_n 2, 1) := by decide +kernel
theorem dX2_beginShelf_16 : decode cX2_beginShelf 16 = .ok (.aload_n 0, 1) := by decide +kernel
theorem dX2_beginShelf_17 : decode cX2_beginShelf 17 = .ok (.getfield 36, 3) := by decide +kernel
theorem dX2_beginShelf_20 : decode cX2_beginShelf 20 = .ok (.istore_n 3, 1) := by decide +kernel
theorem dX2_beginShelf_21 : decode cX2_beginShelf 21 = .ok (.aload_n 0, 1) := by decide +kernel
theorem dX2_beginShelf_22 : decode cX2_beginShelf 22 = .ok (.dup, 1) := by decide +kernel
theorem dX2_beginShelf_23 : decode cX2_beginShelf 23 = .ok (.getfield 36, 3) := by decide +kernel
theorem dX2_beginShelf_26 : decode cX2_beginShelf 26 = .ok (.iconst 1, 1) := by decide +kernel
theorem dX2_beginShelf_27 : decode cX2_beginShelf 27 = .ok (.iadd, 1) := by decide +kernel
theorem dX2_beginShelf_28 : decode cX2_beginShelf 28 = .ok (.putfield 36, 3) := by decide +kernel
theorem dX2_beginShelf_31 : decode cX2_beginShelf 31 = .ok (.aload_n 0, 1) := by decide +kernel
theorem dX2_beginShelf_32 : decode cX2_beginShelf 32 = .ok (.getfield 21, 3) := by decide +kernel
theorem dX2_beginShelf_35 : decode cX2_beginShelf 35 = .ok (.iload_n 3, 1) := by decide +kernel
theorem dX2_beginShelf_36 : decode cX2_beginShelf 36 = .ok (.iload_n 2, 1) := by decide +kernel
theorem dX2_beginShelf_37 : decode cX2_beginShelf 37 = .ok (.iastore, 1) := by decide +kernel
theorem dX2_beginShelf_38 : decode cX2_beginShelf 38 = .ok (.aload_n 0, 1) := by decide +kernel
theorem dX2_beginShelf_39 : decode cX2_beginShelf 39 = .ok (.getfield 24, 3) := by decide +kernel
theorem dX2_beginShelf_42 : decode cX2_beginShelf 42 = .ok (.iload_n 3, 1) := by decide +kernel
theorem dX2_beginShelf_43 : decode cX2_beginShelf 43 = .ok (.aload_n 0, 1) := by decide +kernel
theorem dX2_beginShelf_44 : decode cX2_beginShelf 44 = .ok (.getfield 33, 3) := by decide +kernel
theorem dX2_beginShelf_47 : decode cX2_beginShelf 47 = .ok (.iload_n 2, 1) := by decide +kernel
theorem dX2_beginShelf_48 : decode cX2_beginShelf 48 = .ok (.iaload, 1) := by decide +kernel
theorem dX2_beginShelf_49 : decode cX2_beginShelf 49 = .ok (.iastore, 1) := by decide +kernel
theorem dX2_beginShelf_50 : decode cX2_beginShelf 50 = .ok (.aload_n 0, 1) := by decide +kernel
theorem dX2_beginShelf_51 : decode cX2_beginShelf 51 = .ok (.getfield 27, 3) := by decide +kernel
theorem dX2_beginShelf_54 : decode cX2_beginShelf 54 = .ok (.iload_n 3, 1) := by decide +kernel
theorem dX2_beginShelf_55 : decode cX2_beginShelf 55 = .ok (.iload_n 1, 1) := by decide +kernel
theorem dX2_beginShelf_56 : decode cX2_beginShelf 56 = .ok (.iastore, 1) := by decide +kernel
theorem dX2_beginShelf_57 : decode cX2_beginShelf 57 = .ok (.aload_n 0, 1) := by decide +kernel
theorem dX2_beginShelf_58 : decode cX2_beginShelf 58 = .ok (.getfield 30, 3) := by decide +kernel
theorem dX2_beginShelf_61 : decode cX2_beginShelf 61 = .ok (.iload_n 3, 1) := by decide +kernel
theorem dX2_beginShelf_62 : decode cX2_beginShelf 62 = .ok (.iconst 0, 1) := by decide +kernel
theorem dX2_beginShelf_63 : decode cX2_beginShelf 63 = .ok (.iastore, 1) := by decide +kernel
theorem dX2_beginShelf_64 : decode cX2_beginShelf 64 = .ok (.aload_n 0, 1) := by decide +kernel
theorem dX2_beginShelf_65 : decode cX2_beginShelf 65 = .ok (.getfield 33, 3) := by decide +kernel
theorem dX2_beginShelf_68 : decode cX2_beginShelf 68 = .ok (.iload_n 2, 1) := by decide +kernel
theorem dX2_beginShelf_69 : decode cX2_beginShelf 69 = .ok (.dup2, 1) := by decide +kernel
theorem dX2_beginShelf_70 : decode cX2_beginShelf 70 = .ok (.iaload, 1) := by decide +kernel
theorem dX2_beginShelf_71 : decode cX2_beginShelf 71 = .ok (.iload_n 1, 1) := by decide +kernel
theorem dX2_beginShelf_72 : decode cX2_beginShelf 72 = .ok (.iadd, 1) := by decide +kernel
theorem dX2_beginShelf_73 : decode cX2_beginShelf 73 = .ok (.iastore, 1) := by decide +kernel
theorem dX2_beginShelf_74 : decode cX2_beginShelf 74 = .ok (.iload_n 3, 1) := by decide +kernel
theorem dX2_beginShelf_75 : decode cX2_beginShelf 75 = .ok (.ireturn, 1) := by decide +kernel
theorem dX2_firstSheetFor_0 : decode cX2_firstSheetFor 0 = .ok (.iconst 0, 1) := by decide +kernel
theorem dX2_firstSheetFor_1 : decode cX2_firstSheetFor 1 = .ok (.istore_n 2, 1) := by decide +kernel
theorem dX2_firstSheetFor_2 : decode cX2_firstSheetFor 2 = .ok (.iload_n 2, 1) := by decide +kernel
theorem dX2_firstSheetFor_3 : decode cX2_firstSheetFor 3 = .ok (.aload_n 0, 1) := by decide +kernel
theorem dX2_firstSheetFor_4 : decode cX2_firstSheetFor 4 = .ok (.getfield 40, 3) := by decide +kernel
theorem dX2_firstSheetFor_7 : decode cX2_firstSheetFor 7 = .ok (.if_icmp .ge 24, 3) := by decide +kernel
theorem dX2_firstSheetFor_10 : decode cX2_firstSheetFor 10 = .ok (.bipush 30, 2) := by decide +kernel
theorem dX2_firstSheetFor_12 : decode cX2_firstSheetFor 12 = .ok (.aload_n 0, 1) := by decide +kernel
theorem dX2_firstSheetFor_13 : decode cX2_firstSheetFor 13 = .ok (.getfield 33, 3) := by decide +kernel
theorem dX2_firstSheetFor_16 : decode cX2_firstSheetFor 16 = .ok (.iload_n 2, 1) := by decide +kernel
theorem dX2_firstSheetFor_17 : decode cX2_firstSheetFor 17 = .ok (.iaload, 1) := by decide +kernel
theorem dX2_firstSheetFor_18 : decode cX2_firstSheetFor 18 = .ok (.isub, 1) := by decide +kernel
theorem dX2_firstSheetFor_19 : decode cX2_firstSheetFor 19 = .ok (.iload_n 1, 1) := by decide +kernel
theorem dX2_firstSheetFor_20 : decode cX2_firstSheetFor 20 = .ok (.if_icmp .lt 5, 3) := by decide +kernel
theorem dX2_firstSheetFor_23 : decode cX2_firstSheetFor 23 = .ok (.iload_n 2, 1) := by decide +kernel
theorem dX2_firstSheetFor_24 : decode cX2_firstSheetFor 24 = .ok (.ireturn, 1) := by decide +kernel
theorem dX2_firstSheetFor_25 : decode cX2_firstSheetFor 25 = .ok (.iinc 2 1, 3) := by decide +kernel
theorem dX2_firstSheetFor_28 : decode cX2_firstSheetFor 28 = .ok (.goto (-26), 3) := by decide +kernel
theorem dX2_firstSheetFor_31 : decode cX2_firstSheetFor 31 = .ok (.iconst (-1), 1) := by decide +kernel
theorem dX2_firstSheetFor_32 : decode cX2_firstSheetFor 32 = .ok (.ireturn, 1) := by decide +kernel
theorem dX2_beginSheet_0 : decode cX2_beginSheet 0 = .ok (.aload_n 0, 1) := by decide +kernel
theorem dX2_beginSheet_1 : decode cX2_beginSheet 1 = .ok (.getfield 33, 3) := by decide +kernel
theorem dX2_beginSheet_4 : decode cX2_beginSheet 4 = .ok (.aload_n 0, 1) := by decide +kernel
theorem dX2_beginSheet_5 : decode cX2_beginSheet 5 = .ok (.getfield 40, 3) := by decide +kernel
theorem dX2_beginSheet_8 : decode cX2_beginSheet 8 = .ok (.iconst 0, 1) := by decide +kernel
theorem dX2_beginSheet_9 : decode cX2_beginSheet 9 = .ok (.iastore, 1) := by decide +kernel
theorem dX2_beginSheet_10 : decode cX2_beginSheet 10 = .ok (.aload_n 0, 1) := by decide +kernel
theorem dX2_beginSheet_11 : decode cX2_beginSheet 11 = .ok (.dup, 1) := by decide +kernel
theorem dX2_beginSheet_12 : decode cX2_beginSheet 12 = .ok (.getfield 40, 3) := by decide +kernel
theorem dX2_beginSheet_15 : decode cX2_beginSheet 15 = .ok (.iconst 1, 1) := by decide +kernel
theorem dX2_beginSheet_16 : decode cX2_beginSheet 16 = .ok (.iadd, 1) := by decide +kernel
theorem dX2_beginSheet_17 : decode cX2_beginSheet 17 = .ok (.putfield 40, 3) := by decide +kernel
theorem dX2_beginSheet_20 : decode cX2_beginSheet 20 = .ok (.aload_n 0, 1) := by decide +kernel
theorem dX2_beginSheet_21 : decode cX2_beginSheet 21 = .ok (.getfield 40, 3) := by decide +kernel
theorem dX2_beginSheet_24 : decode cX2_beginSheet 24 = .ok (.iconst 1, 1) := by decide +kernel
theorem dX2_beginSheet_25 : decode cX2_beginSheet 25 = .ok (.isub, 1) := by decide +kernel
theorem dX2_beginSheet_26 : decode cX2_beginSheet 26 = .ok (.ireturn, 1) := by decide +kernel
theorem dX3_init_0 : decode cX3_init 0 = .ok (.aload_n 0, 1) := by decide +kernel
theorem dX3_init_1 : decode cX3_init 1 = .ok (.invokespecial 3, 3) := by decide +kernel
theorem dX3_init_4 : decode cX3_init 4 = .ok (.aload_n 0, 1) := by decide +kernel
theorem dX3_init_5 : decode cX3_init 5 = .ok (.iload_n 1, 1) := by decide +kernel
theorem dX3_init_6 : decode cX3_init 6 = .ok (.putfield 9, 3) := by decide +kernel
theorem dX3_init_9 : decode cX3_init 9 = .ok (.aload_n 0, 1) := by decide +kernel
theorem dX3_init_10 : decode cX3_init 10 = .ok (.iload_n 2, 1) := by decide +kernel
theorem dX3_init_11 : decode cX3_init 11 = .ok (.putfield 15, 3) := by decide +kernel
theorem dX3_init_14 : decode cX3_init 14 = .ok (.aload_n 0, 1) := by decide +kernel
theorem dX3_init_15 : decode cX3_init 15 = .ok (.iload_n 3, 1) := by decide +kernel
theorem dX3_init_16 : decode cX3_init 16 = .ok (.putfield 18, 3) := by decide +kernel
theorem dX3_init_19 : decode cX3_init 19 = .ok (.aload_n 0, 1) := by decide +kernel
theorem dX3_init_20 : decode cX3_init 20 = .ok (.iload 4, 2) := by decide +kernel
theorem dX3_init_22 : decode cX3_init 22 = .ok (.putfield 21, 3) := by decide +kernel
theorem dX3_init_25 : decode cX3_init 25 = .ok (.aload_n 0, 1) := by decide +kernel
theorem dX3_init_26 : decode cX3_init 26 = .ok (.iload 5, 2) := by decide +kernel
theorem dX3_init_28 : decode cX3_init 28 = .ok (.putfield 24, 3) := by decide +kernel
theorem dX3_init_31 : decode cX3_init 31 = .ok (.aload_n 0, 1) := by decide +kernel
theorem dX3_init_32 : decode cX3_init 32 = .ok (.iload 6, 2) := by decide +kernel
theorem dX3_init_34 : decode cX3_init 34 = .ok (.putfield 27, 3) := by decide +kernel
theorem dX3_init_37 : decode cX3_init 37 = .ok (.return_, 1) := by decide +kernel
theorem dX3_rise_0 : decode cX3_rise 0 = .ok (.aload_n 0, 1) := by decide +kernel
theorem dX3_rise_1 : decode cX3_rise 1 = .ok (.getfield 18, 3) := by decide +kernel
theorem dX3_rise_4 : decode cX3_rise 4 = .ok (.iload_n 1, 1) := by decide +kernel
theorem dX3_rise_5 : decode cX3_rise 5 = .ok (.sipush 180, 3) := by decide +kernel
theorem dX3_rise_8 : decode cX3_rise 8 = .ok (.iload_n 1, 1) := by decide +kernel
theorem dX3_rise_9 : decode cX3_rise 9 = .ok (.isub, 1) := by decide +kernel
theorem dX3_rise_10 : decode cX3_rise 10 = .ok (.invokestatic 31, 3) := by decide +kernel
theorem dX3_rise_13 : decode cX3_rise 13 = .ok (.imul, 1) := by decide +kernel
theorem dX3_rise_14 : decode cX3_rise 14 = .ok (.bipush 90, 2) := by decide +kernel
theorem dX3_rise_16 : decode cX3_rise 16 = .ok (.idiv, 1) := by decide +kernel
theorem dX3_rise_17 : decode cX3_rise 17 = .ok (.ireturn, 1) := by decide +kernel
theorem dX3_reach_0 : decode cX3_reach 0 = .ok (.aload_n 0, 1) := by decide +kernel
theorem dX3_reach_1 : decode cX3_reach 1 = .ok (.getfield 15, 3) := by decide +kernel
theorem dX3_reach_4 : decode cX3_reach 4 = .ok (.aload_n 0, 1) := by decide +kernel
theorem dX3_reach_5 : decode cX3_reach 5 = .ok (.getfield 18, 3) := by decide +kernel
theorem dX3_reach_8 : decode cX3_reach 8 = .ok (.bipush 90, 2) := by decide +kernel
theorem dX3_reach_10 : decode cX3_reach 10 = .ok (.iload_n 1, 1) := by decide +kernel
theorem dX3_reach_11 : decode cX3_reach 11 = .ok (.isub, 1) := by decide +kernel
theorem dX3_reach_12 : decode cX3_reach 12 = .ok (.imul, 1) := by decide +kernel
theorem dX3_reach_13 : decode cX3_reach 13 = .ok (.bipush 90, 2) := by decide +kernel
theorem dX3_reach_15 : decode cX3_reach 15 = .ok (.idiv, 1) := by decide +kernel
theorem dX3_reach_16 : decode cX3_reach 16 = .ok (.iadd, 1) := by decide +kernel
theorem dX3_reach_17 : decode cX3_reach 17 = .ok (.ireturn, 1) := by decide +kernel
theorem dX3_spanStart_0 : decode cX3_spanStart 0 = .ok (.aload_n 0, 1) := by decide +kernel
theorem dX3_spanStart_1 : decode cX3_spanStart 1 = .ok (.getfield 15, 3) := by decide +kernel
theorem dX3_spanStart_4 : decode cX3_spanStart 4 = .ok (.aload_n 0, 1) := by decide +kernel
theorem dX3_spanStart_5 : decode cX3_spanStart 5 = .ok (.iload_n 1, 1) := by decide +kernel
theorem dX3_spanStart_6 : decode cX3_spanStart 6 = .ok (.invokevirtual 37, 3) := by decide +kernel
theorem dX3_spanStart_9 : decode cX3_spanStart 9 = .ok (.invokestatic 31, 3) := by decide +kernel
theorem dX3_spanStart_12 : decode cX3_spanStart 12 = .ok (.ireturn, 1) := by decide +kernel
theorem dX3_spanEnd_0 : decode cX3_spanEnd 0 = .ok (.aload_n 0, 1) := by decide +kernel
theorem dX3_spanEnd_1 : decode cX3_spanEnd 1 = .ok (.getfield 15, 3) := by decide +kernel
theorem dX3_spanEnd_4 : decode cX3_spanEnd 4 = .ok (.aload_n 0, 1) := by decide +kernel
theorem dX3_spanEnd_5 : decode cX3_spanEnd 5 = .ok (.iload_n 1, 1) := by decide +kernel
theorem dX3_spanEnd_6 : decode cX3_spanEnd 6 = .ok (.invokevirtual 37, 3) := by decide +kernel
theorem dX3_spanEnd_9 : decode cX3_spanEnd 9 = .ok (.invokestatic 41, 3) := by decide +kernel
theorem dX3_spanEnd_12 : decode cX3_spanEnd 12 = .ok (.ireturn, 1) := by decide +kernel
theorem dX3_sharesLineWith_0 : decode cX3_sharesLineWith 0 = .ok (.aload_n 0, 1) := by decide +kernel
theorem dX3_sharesLineWith_1 : decode cX3_sharesLineWith 1 = .ok (.getfield 21, 3) := by decide +kernel
theorem dX3_sharesLineWith_4 : decode cX3_sharesLineWith 4 = .ok (.aload_n 1, 1) := by decide +kernel
theorem dX3_sharesLineWith_5 : decode cX3_sharesLineWith 5 = .ok (.getfield 21, 3) := by decide +kernel
theorem dX3_sharesLineWith_8 : decode cX3_sharesLineWith 8 = .ok (.aload_n 1, 1) := by decide +kernel
theorem dX3_sharesLineWith_9 : decode cX3_sharesLineWith 9 = .ok (.getfield 24, 3) := by decide +kernel
theorem dX3_sharesLineWith_12 : decode cX3_sharesLineWith 12 = .ok (.iadd, 1) := by decide +kernel
theorem dX3_sharesLineWith_13 : decode cX3_sharesLineWith 13 = .ok (.if_icmp .ge 23, 3) := by decide +kernel
theorem dX3_sharesLineWith_16 : decode cX3_sharesLineWith 16 = .ok (.aload_n 1, 1) := by decide +kernel
theorem dX3_sharesLineWith_17 : decode cX3_sharesLineWith 17 = .ok (.getfield 21, 3) := by decide +kernel
theorem dX3_sharesLineWith_20 : decode cX3_sharesLineWith 20 = .ok (.aload_n 0, 1) := by decide +kernel
theorem dX3_sharesLineWith_21 : decode cX3_sharesLineWith 21 = .ok (.getfield 21, 3) := by decide +kernel
theorem dX3_sharesLineWith_24 : decode cX3_sharesLineWith 24 = .ok (.aload_n 0, 1) := by decide +kernel
theorem dX3_sharesLineWith_25 : decode cX3_sharesLineWith 25 = .ok (.getfield 24, 3) := by decide +kernel
theorem dX3_sharesLineWith_28 : decode cX3_sharesLineWith 28 = .ok (.iadd, 1) := by decide +kernel
theorem dX3_sharesLineWith_29 : decode cX3_sharesLineWith 29 = .ok (.if_icmp .ge 7, 3) := by decide +kernel
theorem dX3_sharesLineWith_32 : decode cX3_sharesLineWith 32 = .ok (.iconst 1, 1) := by decide +kernel
theorem dX3_sharesLineWith_33 : decode cX3_sharesLineWith 33 = .ok (.goto 4, 3) := by decide +kernel
theorem dX3_sharesLineWith_36 : decode cX3_sharesLineWith 36 = .ok (.iconst 0, 1) := by decide +kernel
theorem dX3_sharesLineWith_37 : decode cX3_sharesLineWith 37 = .ok (.ireturn, 1) := by decide +kernel
theorem dX3_pieceWidth_0 : decode cX3_pieceWidth 0 = .ok (.aload_n 0, 1) := by decide +kernel
theorem dX3_pieceWidth_1 : decode cX3_pieceWidth 1 = .ok (.getfield 27, 3) := by decide +kernel
theorem dX3_pieceWidth_4 : decode cX3_pieceWidth 4 = .ok (.ifCond .eq 10, 3) := by decide +kernel
theorem dX3_pieceWidth_7 : decode cX3_pieceWidth 7 = .ok (.aload_n 0, 1) := by decide +kernel
theorem dX3_pieceWidth_8 : decode cX3_pieceWidth 8 = .ok (.getfield 18, 3) := by decide +kernel
theorem dX3_pieceWidth_11 : decode cX3_pieceWidth 11 = .ok (.goto 7, 3) := by decide +kernel
theorem dX3_pieceWidth_14 : decode cX3_pieceWidth 14 = .ok (.aload_n 0, 1) := by decide +kernel
theorem dX3_pieceWidth_15 : decode cX3_pieceWidth 15 = .ok (.getfield 24, 3) := by decide +kernel
theorem dX3_pieceWidth_18 : decode cX3_pieceWidth 18 = .ok (.ireturn, 1) := by decide +kernel
theorem dX3_pieceHeight_0 : decode cX3_pieceHeight 0 = .ok (.aload_n 0, 1) := by decide +kernel
theorem dX3_pieceHeight_1 : decode cX3_pieceHeight 1 = .ok (.getfield 27, 3) := by decide +kernel
theorem dX3_pieceHeight_4 : decode cX3_pieceHeight 4 = .ok (.ifCond .eq 10, 3) := by decide +kernel
theorem dX3_pieceHeight_7 : decode cX3_pieceHeight 7 = .ok (.aload_n 0, 1) := by decide +kernel
theorem dX3_pieceHeight_8 : decode cX3_pieceHeight 8 = .ok (.getfield 24, 3) := by decide +kernel
theorem dX3_pieceHeight_11 : decode cX3_pieceHeight 11 = .ok (.goto 7, 3) := by decide +kernel
theorem dX3_pieceHeight_14 : decode cX3_pieceHeight 14 = .ok (.aload_n 0, 1) := by decide +kernel
theorem dX3_pieceHeight_15 : decode cX3_pieceHeight 15 = .ok (.getfield 18, 3) := by decide +kernel
theorem dX3_pieceHeight_18 : decode cX3_pieceHeight 18 = .ok (.ireturn, 1) := by decide +kernel
theorem dX4_init_0 : decode cX4_init 0 = .ok (.aload_n 0, 1) := by decide +kernel
theorem dX4_init_1 : decode cX4_init 1 = .ok (.invokespecial 1, 3) := by decide +kernel
theorem dX4_init_4 : decode cX4_init 4 = .ok (.aload_n 0, 1) := by decide +kernel
theorem dX4_init_5 : decode cX4_init 5 = .ok (.new 7, 3) := by decide +kernel
theorem dX4_init_8 : decode cX4_init 8 = .ok (.dup, 1) := by decide +kernel
theorem dX4_init_9 : decode cX4_init 9 = .ok (.invokespecial 9, 3) := by decide +kernel
theorem dX4_init_12 : decode cX4_init 12 = .ok (.putfield 10, 3) := by decide +kernel
theorem dX4_init_15 : decode cX4_init 15 = .ok (.aload_n 0, 1) := by decide +kernel
theorem dX4_init_16 : decode cX4_init 16 = .ok (.new 16, 3) := by decide +kernel
theorem dX4_init_19 : decode cX4_init 19 = .ok (.dup, 1) := by decide +kernel
theorem dX4_init_20 : decode cX4_init 20 = .ok (.invokespecial 18, 3) := by decide +kernel
theorem dX4_init_23 : decode cX4_init 23 = .ok (.putfield 19, 3) := by decide +kernel
theorem dX4_init_26 : decode cX4_init 26 = .ok (.aload_n 0, 1) := by decide +kernel
theorem dX4_init_27 : decode cX4_init 27 = .ok (.new 23, 3) := by decide +kernel
theorem dX4_init_30 : decode cX4_init 30 = .ok (.dup, 1) := by decide +kernel
theorem dX4_init_31 : decode cX4_init 31 = .ok (.invokespecial 25, 3) := by decide +kernel
theorem dX4_init_34 : decode cX4_init 34 = .ok (.putfield 26, 3) := by decide +kernel
theorem dX4_init_37 : decode cX4_init 37 = .ok (.aload_n 0, 1) := by decide +kernel
theorem dX4_init_38 : decode cX4_init 38 = .ok (.new 30, 3) := by decide +kernel
theorem dX4_init_41 : decode cX4_init 41 = .ok (.dup, 1) := by decide +kernel
theorem dX4_init_42 : decode cX4_init 42 = .ok (.invokespecial 32, 3) := by decide +kernel
theorem dX4_init_45 : decode cX4_init 45 = .ok (.putfield 33, 3) := by decide +kernel
theorem dX4_init_48 : decode cX4_init 48 = .ok (.return_, 1) := by decide +kernel
theorem dX4_fold_0 : decode cX4_fold 0 = .ok (.aload_n 0, 1) := by decide +kernel
theorem dX4_fold_1 : decode cX4_fold 1 = .ok (.iload_n 1, 1) := by decide +kernel
theorem dX4_fold_2 : decode cX4_fold 2 = .ok (.invokevirtual 37, 3) := by decide +kernel
theorem dX4_fold_5 : decode cX4_fold 5 = .ok (.iload_n 2, 1) := by decide +kernel
theorem dX4_fold_6 : decode cX4_fold 6 = .ok (.iconst 1, 1) := by decide +kernel
theorem dX4_fold_7 : decode cX4_fold 7 = .ok (.bipush 8, 2) := by decide +kernel
theorem dX4_fold_9 : decode cX4_fold 9 = .ok (.invokestatic 41, 3) := by decide +kernel
theorem dX4_fold_12 : decode cX4_fold 12 = .ok (.ifCond .ne 14, 3) := by decide +kernel
theorem dX4_fold_15 : decode cX4_fold 15 = .ok (.iload_n 3, 1) := by decide +kernel
theorem dX4_fold_16 : decode cX4_fold 16 = .ok (.bipush (-90), 2) := by decide +kernel
theorem dX4_fold_18 : decode cX4_fold 18 = .ok (.bipush 90, 2) := by decide +kernel
theorem dX4_fold_20 : decode cX4_fold 20 = .ok (.invokestatic 41, 3) := by decide +kernel
theorem dX4_fold_23 : decode cX4_fold 23 = .ok (.ifCond .eq 13, 3) := by decide +kernel
theorem dX4_fold_26 : decode cX4_fold 26 = .ok (.new 45, 3) := by decide +kernel
theorem dX4_fold_29 : decode cX4_fold 29 = .ok (.dup, 1) := by decide +kernel
theorem dX4_fold_30 : decode cX4_fold 30 = .ok (.ldc 47, 2) := by decide +kernel
theorem dX4_fold_32 : decode cX4_fold 32 = .ok (.invokespecial 49, 3) := by decide +kernel
theorem dX4_fold_35 : decode cX4_fold 35 = .ok (.athrow, 1) := by decide +kernel
theorem dX4_fold_36 : decode cX4_fold 36 = .ok (.aload_n 0, 1) := by decide +kernel
theorem dX4_fold_37 : decode cX4_fold 37 = .ok (.getfield 10, 3) := by decide +kernel
theorem dX4_fold_40 : decode cX4_fold 40 = .ok (.getfield 52, 3) := by decide +kernel
theorem dX4_fold_43 : decode cX4_fold 43 = .ok (.bipush 12, 2) := by decide +kernel
theorem dX4_fold_45 : decode cX4_fold 45 = .ok (.if_icmp .ge 10, 3) := by decide +kernel
theorem dX4_fold_48 : decode cX4_fold 48 = .ok (.aload_n 0, 1) := by decide +kernel
theorem dX4_fold_49 : decode cX4_fold 49 = .ok (.invokevirtual 56, 3) := by decide +kernel
theorem dX4_fold_52 : decode cX4_fold 52 = .ok (.ifCond .eq 13, 3) := by decide +kernel
theorem dX4_fold_55 : decode cX4_fold 55 = .ok (.new 60, 3) := by decide +kernel
theorem dX4_fold_58 : decode cX4_fold 58 = .ok (.dup, 1) := by decide +kernel
theorem dX4_fold_59 : decode cX4_fold 59 = .ok (.ldc 62, 2) := by decide +kernel
theorem dX4_fold_61 : decode cX4_fold 61 = .ok (.invokespecial 64, 3) := by decide +kernel
theorem dX4_fold_64 : decode cX4_fold 64 = .ok (.athrow, 1) := by decide +kernel
theorem dX4_fold_65 : decode cX4_fold 65 = .ok (.aload_n 0, 1) := by decide +kernel
theorem dX4_fold_66 : decode cX4_fold 66 = .ok (.getfield 10, 3) := by decide +kernel
theorem dX4_fold_69 : decode cX4_fold 69 = .ok (.iload_n 1, 1) := by decide +kernel
theorem dX4_fold_70 : decode cX4_fold 70 = .ok (.iload_n 2, 1) := by decide +kernel
theorem dX4_fold_71 : decode cX4_fold 71 = .ok (.iload_n 3, 1) := by decide +kernel
theorem dX4_fold_72 : decode cX4_fold 72 = .ok (.invokevirtual 65, 3) := by decide +kernel
theorem dX4_fold_75 : decode cX4_fold 75 = .ok (.ireturn, 1) := by decide +kernel
theorem dX4_part_0 : decode cX4_part 0 = .ok (.aload_n 0, 1) := by decide +kernel
theorem dX4_part_1 : decode cX4_part 1 = .ok (.iload_n 1, 1) := by decide +kernel
theorem dX4_part_2 : decode cX4_part 2 = .ok (.invokevirtual 37, 3) := by decide +kernel
theorem dX4_part_5 : decode cX4_part 5 = .ok (.iload_n 2, 1) := by decide +kernel
theorem dX4_part_6 : decode cX4_part 6 = .ok (.iconst 0, 1) := by decide +kernel
theorem dX4_part_7 : decode cX4_part 7 = .ok (.bipush 60, 2) := by decide +kernel
theorem dX4_part_9 : decode cX4_part 9 = .ok (.invokestatic 41, 3) := by decide +kernel
theorem dX4_part_12 : decode cX4_part 12 = .ok (.ifCond .ne 25, 3) := by decide +kernel
theorem dX4_part_15 : decode cX4_part 15 = .ok (.iload 4, 2) := by decide +kernel
theorem dX4_part_17 : decode cX4_part 17 = .ok (.iconst 0, 1) := by decide +kernel
theorem dX4_part_18 : decode cX4_part 18 = .ok (.bipush 20, 2) := by decide +kernel
theorem dX4_part_20 : decode cX4_part 20 = .ok (.invokestatic 41, 3) := by decide +kernel
theorem dX4_part_23 : decode cX4_part 23 = .ok (.ifCond .ne 14, 3) := by decide +kernel
theorem dX4_part_26 : decode cX4_part 26 = .ok (.iload 5, 2) := by decide +kernel
theorem dX4_part_28 : decode cX4_part 28 = .ok (.iconst 1, 1) := by decide +kernel
theorem dX4_part_29 : decode cX4_part 29 = .ok (.bipush 10, 2) := by decide +kernel
theorem dX4_part_31 : decode cX4_part 31 = .ok (.invokestatic 41, 3) := by decide +kernel
theorem dX4_part_34 : decode cX4_part 34 = .ok (.ifCond .eq 13, 3) := by decide +kernel
theorem dX4_part_37 : decode cX4_part 37 = .ok (.new 45, 3) := by decide +kernel
theorem dX4_part_40 : decode cX4_part 40 = .ok (.dup, 1) := by decide +kernel
theorem dX4_part_41 : decode cX4_part 41 = .ok (.ldc 69, 2) := by decide +kernel
theorem dX4_part_43 : decode cX4_part 43 = .ok (.invokespecial 49, 3) := by decide +kernel
theorem dX4_part_46 : decode cX4_part 46 = .ok (.athrow, 1) := by decide +kernel
theorem dX4_part_47 : decode cX4_part 47 = .ok (.iload_n 3, 1) := by decide +kernel
theorem dX4_part_48 : decode cX4_part 48 = .ok (.invokestatic 71, 3) := by decide +kernel
theorem dX4_part_51 : decode cX4_part 51 = .ok (.aload_n 0, 1) := by decide +kernel
theorem dX4_part_52 : decode cX4_part 52 = .ok (.getfield 19, 3) := by decide +kernel
theorem dX4_part_55 : decode cX4_part 55 = .ok (.invokevirtual 74, 3) := by decide +kernel
theorem dX4_part_58 : decode cX4_part 58 = .ok (.bipush 16, 2) := by decide +kernel
theorem dX4_part_60 : decode cX4_part 60 = .ok (.if_icmp .ge 10, 3) := by decide +kernel
theorem dX4_part_63 : decode cX4_part 63 = .ok (.aload_n 0, 1) := by decide +kernel
theorem dX4_part_64 : decode cX4_part 64 = .ok (.invokevirtual 56, 3) := by decide +kernel
theorem dX4_part_67 : decode cX4_part 67 = .ok (.ifCond .eq 13, 3) := by decide +kernel
theorem dX4_part_70 : decode cX4_part 70 = .ok (.new 60, 3) := by decide +kernel
theorem dX4_part_73 : decode cX4_part 73 = .ok (.dup, 1) := by decide +kernel
theorem dX4_part_74 : decode cX4_part 74 = .ok (.ldc 78, 2) := by decide +kernel
theorem dX4_part_76 : decode cX4_part 76 = .ok (.invokespecial 64, 3) := by decide +kernel
theorem dX4_part_79 : decode cX4_part 79 = .ok (.athrow, 1) := by decide +kernel
theorem dX4_part_80 : decode cX4_part 80 = .ok (.aload_n 0, 1) := by decide +kernel
theorem dX4_part_81 : decode cX4_part 81 = .ok (.getfield 19, 3) := by decide +kernel
theorem dX4_part_84 : decode cX4_part 84 = .ok (.new 80, 3) := by decide +kernel
theorem dX4_part_87 : decode cX4_part 87 = .ok (.dup, 1) := by decide +kernel
theorem dX4_part_88 : decode cX4_part 88 = .ok (.iload_n 1, 1) := by decide +kernel
theorem dX4_part_89 : decode cX4_part 89 = .ok (.iload_n 2, 1) := by decide +kernel
theorem dX4_part_90 : decode cX4_part 90 = .ok (.iload_n 3, 1) := by decide +kernel
theorem dX4_part_91 : decode cX4_part 91 = .ok (.iload 4, 2) := by decide +kernel
theorem dX4_part_93 : decode cX4_part 93 = .ok (.iload 5, 2) := by decide +kernel
theorem dX4_part_95 : decode cX4_part 95 = .ok (.iload 6, 2) := by decide +kernel
theorem dX4_part_97 : decode cX4_part 97 = .ok (.invokespecial 82, 3) := by decide +kernel
theorem dX4_part_100 : decode cX4_part 100 = .ok (.invokevirtual 85, 3) := by decide +kernel
theorem dX4_part_103 : decode cX4_part 103 = .ok (.pop, 1) := by decide +kernel
theorem dX4_part_104 : decode cX4_part 104 = .ok (.aload_n 0, 1) := by decide +kernel
theorem dX4_part_105 : decode cX4_part 105 = .ok (.getfield 19, 3) := by decide +kernel
theorem dX4_part_108 : decode cX4_part 108 = .ok (.invokevirtual 74, 3) := by decide +kernel
theorem dX4_part_111 : decode cX4_part 111 = .ok (.iconst 1, 1) := by decide +kernel
theorem dX4_part_112 : decode cX4_part 112 = .ok (.isub, 1) := by decide +kernel
theorem dX4_part_113 : decode cX4_part 113 = .ok (.ireturn, 1) := by decide +kernel
theorem dX4_angle_0 : decode cX4_angle 0 = .ok (.aload_n 0, 1) := by decide +kernel
theorem dX4_angle_1 : decode cX4_angle 1 = .ok (.iload_n 1, 1) := by decide +kernel
theorem dX4_angle_2 : decode cX4_angle 2 = .ok (.invokevirtual 37, 3) := by decide +kernel
theorem dX4_angle_5 : decode cX4_angle 5 = .ok (.iload_n 2, 1) := by decide +kernel
theorem dX4_angle_6 : decode cX4_angle 6 = .ok (.invokestatic 88, 3) := by decide +kernel
theorem dX4_angle_9 : decode cX4_angle 9 = .ok (.aload_n 0, 1) := by decide +kernel
theorem dX4_angle_10 : decode cX4_angle 10 = .ok (.getfield 10, 3) := by decide +kernel
theorem dX4_angle_13 : decode cX4_angle 13 = .ok (.iload_n 2, 1) := by decide +kernel
theorem dX4_angle_14 : decode cX4_angle 14 = .ok (.invokevirtual 91, 3) := by decide +kernel
theorem dX4_angle_17 : decode cX4_angle 17 = .ok (.iload_n 1, 1) := by decide +kernel
theorem dX4_angle_18 : decode cX4_angle 18 = .ok (.iaload, 1) := by decide +kernel
theorem dX4_angle_19 : decode cX4_angle 19 = .ok (.ireturn, 1) := by decide +kernel
theorem dX4_angleAnew_0 : decode cX4_angleAnew 0 = .ok (.aload_n 0, 1) := by decide +kernel
theorem dX4_angleAnew_1 : decode cX4_angleAnew 1 = .ok (.iload_n 1, 1) := by decide +kernel
theorem dX4_angleAnew_2 : decode cX4_angleAnew 2 = .ok (.invokevirtual 37, 3) := by decide +kernel
theorem dX4_angleAnew_5 : decode cX4_angleAnew 5 = .ok (.iload_n 2, 1) := by decide +kernel
theorem dX4_angleAnew_6 : decode cX4_angleAnew 6 = .ok (.invokestatic 88, 3) := by decide +kernel
theorem dX4_angleAnew_9 : decode cX4_angleAnew 9 = .ok (.aload_n 0, 1) := by decide +kernel
theorem dX4_angleAnew_10 : decode cX4_angleAnew 10 = .ok (.getfield 10, 3) := by decide +kernel
theorem dX4_angleAnew_13 : decode cX4_angleAnew 13 = .ok (.iload_n 2, 1) := by decide +kernel
theorem dX4_angleAnew_14 : decode cX4_angleAnew 14 = .ok (.invokevirtual 95, 3) := by decide +kernel
theorem dX4_angleAnew_17 : decode cX4_angleAnew 17 = .ok (.iload_n 1, 1) := by decide +kernel
theorem dX4_angleAnew_18 : decode cX4_angleAnew 18 = .ok (.iaload, 1) := by decide +kernel
theorem dX4_angleAnew_19 : decode cX4_angleAnew 19 = .ok (.ireturn, 1) := by decide +kernel
theorem dX4_where_0 : decode cX4_where 0 = .ok (.aload_n 0, 1) := by decide +kernel
theorem dX4_where_1 : decode cX4_where 1 = .ok (.iload_n 1, 1) := by decide +kernel
theorem dX4_where_2 : decode cX4_where 2 = .ok (.invokevirtual 98, 3) := by decide +kernel
theorem dX4_where_5 : decode cX4_where 5 = .ok (.iload_n 2, 1) := by decide +kernel
theorem dX4_where_6 : decode cX4_where 6 = .ok (.invokestatic 88, 3) := by decide +kernel
theorem dX4_where_9 : decode cX4_where 9 = .ok (.iload_n 3, 1) := by decide +kernel
theorem dX4_where_10 : decode cX4_where 10 = .ok (.invokestatic 101, 3) := by decide +kernel
theorem dX4_where_13 : decode cX4_where 13 = .ok (.aload_n 0, 1) := by decide +kernel
theorem dX4_where_14 : decode cX4_where 14 = .ok (.getfield 19, 3) := by decide +kernel
theorem dX4_where_17 : decode cX4_where 17 = .ok (.iload_n 1, 1) := by decide +kernel
theorem dX4_where_18 : decode cX4_where 18 = .ok (.invokevirtual 104, 3) := by decide +kernel
theorem dX4_where_21 : decode cX4_where 21 = .ok (.checkcast 80, 3) := by decide +kernel
theorem dX4_where_24 : decode cX4_where 24 = .ok (.astore 4, 2) := by decide +kernel
theorem dX4_where_26 : decode cX4_where 26 = .ok (.aload_n 0, 1) := by decide +kernel
theorem dX4_where_27 : decode cX4_where 27 = .ok (.getfield 10, 3) := by decide +kernel
theorem dX4_where_30 : decode cX4_where 30 = .ok (.iload_n 2, 1) := by decide +kernel
theorem dX4_where_31 : decode cX4_where 31 = .ok (.invokevirtual 91, 3) := by decide +kernel
theorem dX4_where_34 : decode cX4_where 34 = .ok (.aload 4, 2) := by decide +kernel
theorem dX4_where_36 : decode cX4_where 36 = .ok (.getfield 108, 3) := by decide +kernel
theorem dX4_where_39 : decode cX4_where 39 = .ok (.iaload, 1) := by decide +kernel
theorem dX4_where_40 : decode cX4_where 40 = .ok (.istore 5, 2) := by decide +kernel
theorem dX4_where_42 : decode cX4_where 42 = .ok (.iload_n 3, 1) := by decide +kernel
theorem dX4_where_43 : decode cX4_where 43 = .ok (.ifCond .ne 11, 3) := by decide +kernel
theorem dX4_where_46 : decode cX4_where 46 = .ok (.aload 4, 2) := by decide +kernel
theorem dX4_where_48 : decode cX4_where 48 = .ok (.iload 5, 2) := by decide +kernel
theorem dX4_where_50 : decode cX4_where 50 = .ok (.invokevirtual 111, 3) := by decide +kernel
theorem dX4_where_53 : decode cX4_where 53 = .ok (.ireturn, 1) := by decide +kernel
theorem dX4_where_54 : decode cX4_where 54 = .ok (.iload_n 3, 1) := by decide +kernel
theorem dX4_where_55 : decode cX4_where 55 = .ok (.iconst 1, 1) := by decide +kernel
theorem dX4_where_56 : decode cX4_where 56 = .ok (.if_icmp .ne 13, 3) := by decide +kernel
theorem dX4_where_59 : decode cX4_where 59 = .ok (.aload 4, 2) := by decide +kernel
theorem dX4_where_61 : decode cX4_where 61 = .ok (.iload 5, 2) := by decide +kernel
theorem dX4_where_63 : decode cX4_where 63 = .ok (.invokevirtual 115, 3) := by decide +kernel
theorem dX4_where_66 : decode cX4_where 66 = .ok (.goto 10, 3) := by decide +kernel
theorem dX4_where_69 : decode cX4_where 69 = .ok (.aload 4, 2) := by decide +kernel
theorem dX4_where_71 : decode cX4_where 71 = .ok (.iload 5, 2) := by decide +kernel
theorem dX4_where_73 : decode cX4_where 73 = .ok (.invokevirtual 118, 3) := by decide +kernel
theorem dX4_where_76 : decode cX4_where 76 = .ok (.ireturn, 1) := by decide +kernel
theorem dX4_meet_0 : decode cX4_meet 0 = .ok (.aload_n 0, 1) := by decide +kernel
theorem dX4_meet_1 : decode cX4_meet 1 = .ok (.iload_n 1, 1) := by decide +kernel
theorem dX4_meet_2 : decode cX4_meet 2 = .ok (.invokevirtual 98, 3) := by decide +kernel
theorem dX4_meet_5 : decode cX4_meet 5 = .ok (.aload_n 0, 1) := by decide +kernel
theorem dX4_meet_6 : decode cX4_meet 6 = .ok (.iload_n 2, 1) := by decide +kernel
theorem dX4_meet_7 : decode cX4_meet 7 = .ok (.invokevirtual 98, 3) := by decide +kernel
theorem dX4_meet_10 : decode cX4_meet 10 = .ok (.iload_n 3, 1) := by decide +kernel
theorem dX4_meet_11 : decode cX4_meet 11 = .ok (.invokestatic 88, 3) := by decide +kernel
theorem dX4_meet_14 : decode cX4_meet 14 = .ok (.iload_n 1, 1) := by decide +kernel
theorem dX4_meet_15 : decode cX4_meet 15 = .ok (.iload_n 2, 1) := by decide +kernel
theorem dX4_meet_16 : decode cX4_meet 16 = .ok (.if_icmp .eq 43, 3) := by decide +kernel
theorem dX4_meet_19 : decode cX4_meet 19 = .ok (.aload_n 0, 1) := by decide +kernel
theorem dX4_meet_20 : decode cX4_meet 20 = .ok (.getfield 19, 3) := by decide +kernel
theorem dX4_meet_23 : decode cX4_meet 23 = .ok (.iload_n 1, 1) := by decide +kernel
theorem dX4_meet_24 : decode cX4_meet 24 = .ok (.invokevirtual 104, 3) := by decide +kernel
theorem dX4_meet_27 : decode cX4_meet 27 = .ok (.checkcast 80, 3) := by decide +kernel
theorem dX4_meet_30 : decode cX4_meet 30 = .ok (.aload_n 0, 1) := by decide +kernel
theorem dX4_meet_31 : decode cX4_meet 31 = .ok (.getfield 19, 3) := by decide +kernel
theorem dX4_meet_34 : decode cX4_meet 34 = .ok (.iload_n 2, 1) := by decide +kernel
theorem dX4_meet_35 : decode cX4_meet 35 = .ok (.invokevirtual 104, 3) := by decide +kernel
theorem dX4_meet_38 : decode cX4_meet 38 = .ok (.checkcast 80, 3) := by decide +kernel
theorem dX4_meet_41 : decode cX4_meet 41 = .ok (.aload_n 0, 1) := by decide +kernel
theorem dX4_meet_42 : decode cX4_meet 42 = .ok (.getfield 10, 3) := by decide +kernel
theorem dX4_meet_45 : decode cX4_meet 45 = .ok (.iload_n 3, 1) := by decide +kernel
theorem dX4_meet_46 : decode cX4_meet 46 = .ok (.invokevirtual 91, 3) := by decide +kernel
theorem dX4_meet_49 : decode cX4_meet 49 = .ok (.invokestatic 121, 3) := by decide +kernel
theorem dX4_meet_52 : decode cX4_meet 52 = .ok (.ifCond .eq 7, 3) := by decide +kernel
theorem dX4_meet_55 : decode cX4_meet 55 = .ok (.iconst 1, 1) := by decide +kernel
theorem dX4_meet_56 : decode cX4_meet 56 = .ok (.goto 4, 3) := by decide +kernel
theorem dX4_meet_59 : decode cX4_meet 59 = .ok (.iconst 0, 1) := by decide +kernel
theorem dX4_meet_60 : decode cX4_meet 60 = .ok (.ireturn, 1) := by decide +kernel
theorem dX4_test_0 : decode cX4_test 0 = .ok (.iconst 0, 1) := by decide +kernel
theorem dX4_test_1 : decode cX4_test 1 = .ok (.istore_n 1, 1) := by decide +kernel
theorem dX4_test_2 : decode cX4_test 2 = .ok (.iload_n 1, 1) := by decide +kernel
theorem dX4_test_3 : decode cX4_test 3 = .ok (.sipush 180, 3) := by decide +kernel
theorem dX4_test_6 : decode cX4_test 6 = .ok (.if_icmp .gt 28, 3) := by decide +kernel
theorem dX4_test_9 : decode cX4_test 9 = .ok (.aload_n 0, 1) := by decide +kernel
theorem dX4_test_10 : decode cX4_test 10 = .ok (.iload_n 1, 1) := by decide +kernel
theorem dX4_test_11 : decode cX4_test 11 = .ok (.invokevirtual 125, 3) := by decide +kernel
theorem dX4_test_14 : decode cX4_test 14 = .ok (.istore_n 2, 1) := by decide +kernel
theorem dX4_test_15 : decode cX4_test 15 = .ok (.iload_n 2, 1) := by decide +kernel
theorem dX4_test_16 : decode cX4_test 16 = .ok (.iconst (-1), 1) := by decide +kernel
theorem dX4_test_17 : decode cX4_test 17 = .ok (.if_icmp .eq 11, 3) := by decide +kernel
theorem dX4_test_20 : decode cX4_test 20 = .ok (.sipush 1000, 3) := by decide +kernel
theorem dX4_test_23 : decode cX4_test 23 = .ok (.iload_n 2, 1) := by decide +kernel
theorem dX4_test_24 : decode cX4_test 24 = .ok (.imul, 1) := by decide +kernel
theorem dX4_test_25 : decode cX4_test 25 = .ok (.iload_n 1, 1) := by decide +kernel
theorem dX4_test_26 : decode cX4_test 26 = .ok (.iadd, 1) := by decide +kernel
theorem dX4_test_27 : decode cX4_test 27 = .ok (.ireturn, 1) := by decide +kernel
theorem dX4_test_28 : decode cX4_test 28 = .ok (.iinc 1 15, 3) := by decide +kernel
theorem dX4_test_31 : decode cX4_test 31 = .ok (.goto (-29), 3) := by decide +kernel
theorem dX4_test_34 : decode cX4_test 34 = .ok (.iconst (-1), 1) := by decide +kernel
theorem dX4_test_35 : decode cX4_test 35 = .ok (.ireturn, 1) := by decide +kernel
theorem dX4_sheets_0 : decode cX4_sheets 0 = .ok (.aload_n 0, 1) := by decide +kernel
theorem dX4_sheets_1 : decode cX4_sheets 1 = .ok (.invokevirtual 128, 3) := by decide +kernel
theorem dX4_sheets_4 : decode cX4_sheets 4 = .ok (.aload_n 0, 1) := by decide +kernel
theorem dX4_sheets_5 : decode cX4_sheets 5 = .ok (.getfield 33, 3) := by decide +kernel
theorem dX4_sheets_8 : decode cX4_sheets 8 = .ok (.getfield 131, 3) := by decide +kernel
theorem dX4_sheets_11 : decode cX4_sheets 11 = .ok (.ireturn, 1) := by decide +kernel
theorem dX4_laid_0 : decode cX4_laid 0 = .ok (.aload_n 0, 1) := by decide +kernel
theorem dX4_laid_1 : decode cX4_laid 1 = .ok (.iload_n 1, 1) := by decide +kernel
theorem dX4_laid_2 : decode cX4_laid 2 = .ok (.invokevirtual 98, 3) := by decide +kernel
theorem dX4_laid_5 : decode cX4_laid 5 = .ok (.iload_n 2, 1) := by decide +kernel
theorem dX4_laid_6 : decode cX4_laid 6 = .ok (.invokestatic 101, 3) := by decide +kernel
theorem dX4_laid_9 : decode cX4_laid 9 = .ok (.aload_n 0, 1) := by decide +kernel
theorem dX4_laid_10 : decode cX4_laid 10 = .ok (.invokevirtual 128, 3) := by decide +kernel
theorem dX4_laid_13 : decode cX4_laid 13 = .ok (.iload_n 2, 1) := by decide +kernel
theorem dX4_laid_14 : decode cX4_laid 14 = .ok (.ifCond .ne 13, 3) := by decide +kernel
theorem dX4_laid_17 : decode cX4_laid 17 = .ok (.aload_n 0, 1) := by decide +kernel
theorem dX4_laid_18 : decode cX4_laid 18 = .ok (.getfield 33, 3) := by decide +kernel
theorem dX4_laid_21 : decode cX4_laid 21 = .ok (.getfield 134, 3) := by decide +kernel
theorem dX4_laid_24 : decode cX4_laid 24 = .ok (.iload_n 1, 1) := by decide +kernel
theorem dX4_laid_25 : decode cX4_laid 25 = .ok (.iaload, 1) := by decide +kernel
theorem dX4_laid_26 : decode cX4_laid 26 = .ok (.ireturn, 1) := by decide +kernel
theorem dX4_laid_27 : decode cX4_laid 27 = .ok (.iload_n 2, 1) := by decide +kernel
theorem dX4_laid_28 : decode cX4_laid 28 = .ok (.iconst 1, 1) := by decide +kernel
theorem dX4_laid_29 : decode cX4_laid 29 = .ok (.if_icmp .ne 15, 3) := by decide +kernel
theorem dX4_laid_32 : decode cX4_laid 32 = .ok (.aload_n 0, 1) := by decide +kernel
theorem dX4_laid_33 : decode cX4_laid 33 = .ok (.getfield 33, 3) := by decide +kernel
theorem dX4_laid_36 : decode cX4_laid 36 = .ok (.getfield 138, 3) := by decide +kernel
theorem dX4_laid_39 : decode cX4_laid 39 = .ok (.iload_n 1, 1) := by decide +kernel
theorem dX4_laid_40 : decode cX4_laid 40 = .ok (.iaload, 1) := by decide +kernel
theorem dX4_laid_41 : decode cX4_laid 41 = .ok (.goto 12, 3) := by decide +kernel
theorem dX4_laid_44 : decode cX4_laid 44 = .ok (.aload_n 0, 1) := by decide +kernel
theorem dX4_laid_45 : decode cX4_laid 45 = .ok (.getfield 33, 3) := by decide +kernel
theorem dX4_laid_48 : decode cX4_laid 48 = .ok (.getfield 141, 3) := by decide +kernel
theorem dX4_laid_51 : decode cX4_laid 51 = .ok (.iload_n 1, 1) := by decide +kernel
theorem dX4_laid_52 : decode cX4_laid 52 = .ok (.iaload, 1) := by decide +kernel
theorem dX4_laid_53 : decode cX4_laid 53 = .ok (.ireturn, 1) := by decide +kernel
theorem dX4_glue_0 : decode cX4_glue 0 = .ok (.aload_n 0, 1) := by decide +kernel
theorem dX4_glue_1 : decode cX4_glue 1 = .ok (.iload_n 1, 1) := by decide +kernel
theorem dX4_glue_2 : decode cX4_glue 2 = .ok (.invokevirtual 98, 3) := by decide +kernel
theorem dX4_glue_5 : decode cX4_glue 5 = .ok (.aload_n 0, 1) := by decide +kernel
theorem dX4_glue_6 : decode cX4_glue 6 = .ok (.getfield 26, 3) := by decide +kernel
theorem dX4_glue_9 : decode cX4_glue 9 = .ok (.iload_n 1, 1) := by decide +kernel
theorem dX4_glue_10 : decode cX4_glue 10 = .ok (.invokevirtual 144, 3) := by decide +kernel
theorem dX4_glue_13 : decode cX4_glue 13 = .ok (.iconst (-1), 1) := by decide +kernel
theorem dX4_glue_14 : decode cX4_glue 14 = .ok (.if_icmp .eq 13, 3) := by decide +kernel
theorem dX4_glue_17 : decode cX4_glue 17 = .ok (.new 60, 3) := by decide +kernel
theorem dX4_glue_20 : decode cX4_glue 20 = .ok (.dup, 1) := by decide +kernel
theorem dX4_glue_21 : decode cX4_glue 21 = .ok (.ldc 147, 2) := by decide +kernel
theorem dX4_glue_23 : decode cX4_glue 23 = .ok (.invokespecial 64, 3) := by decide +kernel
theorem dX4_glue_26 : decode cX4_glue 26 = .ok (.athrow, 1) := by decide +kernel
theorem dX4_glue_27 : decode cX4_glue 27 = .ok (.aload_n 0, 1) := by decide +kernel
theorem dX4_glue_28 : decode cX4_glue 28 = .ok (.getfield 19, 3) := by decide +kernel
theorem dX4_glue_31 : decode cX4_glue 31 = .ok (.iload_n 1, 1) := by decide +kernel
theorem dX4_glue_32 : decode cX4_glue 32 = .ok (.invokevirtual 104, 3) := by decide +kernel
theorem dX4_glue_35 : decode cX4_glue 35 = .ok (.checkcast 80, 3) := by decide +kernel
theorem dX4_glue_38 : decode cX4_glue 38 = .ok (.astore_n 2, 1) := by decide +kernel
theorem dX4_glue_39 : decode cX4_glue 39 = .ok (.aload_n 0, 1) := by decide +kernel
theorem dX4_glue_40 : decode cX4_glue 40 = .ok (.aload_n 2, 1) := by decide +kernel
theorem dX4_glue_41 : decode cX4_glue 41 = .ok (.invokevirtual 149, 3) := by decide +kernel
theorem dX4_glue_44 : decode cX4_glue 44 = .ok (.ifCond .ne 11, 3) := by decide +kernel
theorem dX4_glue_47 : decode cX4_glue 47 = .ok (.aload_n 0, 1) := by decide +kernel
theorem dX4_glue_48 : decode cX4_glue 48 = .ok (.aload_n 2, 1) := by decide +kernel
theorem dX4_glue_49 : decode cX4_glue 49 = .ok (.invokevirtual 153, 3) := by decide +kernel
theorem dX4_glue_52 : decode cX4_glue 52 = .ok (.ifCond .ne 13, 3) := by decide +kernel
theorem dX4_glue_55 : decode cX4_glue 55 = .ok (.new 60, 3) := by decide +kernel
theorem dX4_glue_58 : decode cX4_glue 58 = .ok (.dup, 1) := by decide +kernel
theorem dX4_glue_59 : decode cX4_glue 59 = .ok (.ldc 156, 2) := by decide +kernel
theorem dX4_glue_61 : decode cX4_glue 61 = .ok (.invokespecial 64, 3) := by decide +kernel
theorem dX4_glue_64 : decode cX4_glue 64 = .ok (.athrow, 1) := by decide +kernel
theorem dX4_glue_65 : decode cX4_glue 65 = .ok (.aload_n 0, 1) := by decide +kernel
theorem dX4_glue_66 : decode cX4_glue 66 = .ok (.getfield 26, 3) := by decide +kernel
theorem dX4_glue_69 : decode cX4_glue 69 = .ok (.iload_n 1, 1) := by decide +kernel
theorem dX4_glue_70 : decode cX4_glue 70 = .ok (.invokevirtual 158, 3) := by decide +kernel
theorem dX4_glue_73 : decode cX4_glue 73 = .ok (.ireturn, 1) := by decide +kernel
theorem dX4_unglue_0 : decode cX4_unglue 0 = .ok (.aload_n 0, 1) := by decide +kernel
theorem dX4_unglue_1 : decode cX4_unglue 1 = .ok (.getfield 26, 3) := by decide +kernel
theorem dX4_unglue_4 : decode cX4_unglue 4 = .ok (.getfield 161, 3) := by decide +kernel
theorem dX4_unglue_7 : decode cX4_unglue 7 = .ok (.ifCond .ne 13, 3) := by decide +kernel
theorem dX4_unglue_10 : decode cX4_unglue 10 = .ok (.new 60, 3) := by decide +kernel
theorem dX4_unglue_13 : decode cX4_unglue 13 = .ok (.dup, 1) := by decide +kernel
theorem dX4_unglue_14 : decode cX4_unglue 14 = .ok (.ldc 162, 2) := by decide +kernel
theorem dX4_unglue_16 : decode cX4_unglue 16 = .ok (.invokespecial 64, 3) := by decide +kernel
theorem dX4_unglue_19 : decode cX4_unglue 19 = .ok (.athrow, 1) := by decide +kernel
theorem dX4_unglue_20 : decode cX4_unglue 20 = .ok (.aload_n 0, 1) := by decide +kernel
theorem dX4_unglue_21 : decode cX4_unglue 21 = .ok (.getfield 26, 3) := by decide +kernel
theorem dX4_unglue_24 : decode cX4_unglue 24 = .ok (.aload_n 0, 1) := by decide +kernel
theorem dX4_unglue_25 : decode cX4_unglue 25 = .ok (.getfield 26, 3) := by decide +kernel
theorem dX4_unglue_28 : decode cX4_unglue 28 = .ok (.getfield 161, 3) := by decide +kernel
theorem dX4_unglue_31 : decode cX4_unglue 31 = .ok (.iconst 1, 1) := by decide +kernel
theorem dX4_unglue_32 : decode cX4_unglue 32 = .ok (.isub, 1) := by decide +kernel
theorem dX4_unglue_33 : decode cX4_unglue 33 = .ok (.invokevirtual 164, 3) := by decide +kernel
theorem dX4_unglue_36 : decode cX4_unglue 36 = .ok (.istore_n 1, 1) := by decide +kernel
theorem dX4_unglue_37 : decode cX4_unglue 37 = .ok (.aload_n 0, 1) := by decide +kernel
theorem dX4_unglue_38 : decode cX4_unglue 38 = .ok (.getfield 26, 3) := by decide +kernel
theorem dX4_unglue_41 : decode cX4_unglue 41 = .ok (.aload_n 0, 1) := by decide +kernel
theorem dX4_unglue_42 : decode cX4_unglue 42 = .ok (.getfield 26, 3) := by decide +kernel
theorem dX4_unglue_45 : decode cX4_unglue 45 = .ok (.getfield 161, 3) := by decide +kernel
theorem dX4_unglue_48 : decode cX4_unglue 48 = .ok (.iconst 1, 1) := by decide +kernel
theorem dX4_unglue_49 : decode cX4_unglue 49 = .ok (.isub, 1) := by decide +kernel
theorem dX4_unglue_50 : decode cX4_unglue 50 = .ok (.invokevirtual 167, 3) := by decide +kernel
theorem dX4_unglue_53 : decode cX4_unglue 53 = .ok (.pop, 1) := by decide +kernel
theorem dX4_unglue_54 : decode cX4_unglue 54 = .ok (.iload_n 1, 1) := by decide +kernel
theorem dX4_unglue_55 : decode cX4_unglue 55 = .ok (.ireturn, 1) := by decide +kernel
theorem dX4_glued_0 : decode cX4_glued 0 = .ok (.iload_n 1, 1) := by decide +kernel
theorem dX4_glued_1 : decode cX4_glued 1 = .ok (.ifCond .ge 13, 3) := by decide +kernel
theorem dX4_glued_4 : decode cX4_glued 4 = .ok (.new 170, 3) := by decide +kernel
theorem dX4_glued_7 : decode cX4_glued 7 = .ok (.dup, 1) := by decide +kernel
theorem dX4_glued_8 : decode cX4_glued 8 = .ok (.ldc 172, 2) := by decide +kernel
theorem dX4_glued_10 : decode cX4_glued 10 = .ok (.invokespecial 174, 3) := by decide +kernel
theorem dX4_glued_13 : decode cX4_glued 13 = .ok (.athrow, 1) := by decide +kernel
theorem dX4_glued_14 : decode cX4_glued 14 = .ok (.aload_n 0, 1) := by decide +kernel
theorem dX4_glued_15 : decode cX4_glued 15 = .ok (.getfield 26, 3) := by decide +kernel
theorem dX4_glued_18 : decode cX4_glued 18 = .ok (.iload_n 1, 1) := by decide +kernel
theorem dX4_glued_19 : decode cX4_glued 19 = .ok (.invokevirtual 164, 3) := by decide +kernel
theorem dX4_glued_22 : decode cX4_glued 22 = .ok (.ireturn, 1) := by decide +kernel
theorem dX4_resize_0 : decode cX4_resize 0 = .ok (.aload_n 0, 1) := by decide +kernel
theorem dX4_resize_1 : decode cX4_resize 1 = .ok (.iload_n 1, 1) := by decide +kernel
theorem dX4_resize_2 : decode cX4_resize 2 = .ok (.invokevirtual 98, 3) := by decide +kernel
theorem dX4_resize_5 : decode cX4_resize 5 = .ok (.iload_n 2, 1) := by decide +kernel
theorem dX4_resize_6 : decode cX4_resize 6 = .ok (.invokestatic 71, 3) := by decide +kernel
theorem dX4_resize_9 : decode cX4_resize 9 = .ok (.aload_n 0, 1) := by decide +kernel
theorem dX4_resize_10 : decode cX4_resize 10 = .ok (.getfield 19, 3) := by decide +kernel
theorem dX4_resize_13 : decode cX4_resize 13 = .ok (.iload_n 1, 1) := by decide +kernel
theorem dX4_resize_14 : decode cX4_resize 14 = .ok (.invokevirtual 104, 3) := by decide +kernel
theorem dX4_resize_17 : decode cX4_resize 17 = .ok (.checkcast 80, 3) := by decide +kernel
theorem dX4_resize_20 : decode cX4_resize 20 = .ok (.iload_n 2, 1) := by decide +kernel
theorem dX4_resize_21 : decode cX4_resize 21 = .ok (.putfield 175, 3) := by decide +kernel
theorem dX4_resize_24 : decode cX4_resize 24 = .ok (.aload_n 0, 1) := by decide +kernel
theorem dX4_resize_25 : decode cX4_resize 25 = .ok (.getfield 26, 3) := by decide +kernel
theorem dX4_resize_28 : decode cX4_resize 28 = .ok (.iload_n 1, 1) := by decide +kernel
theorem dX4_resize_29 : decode cX4_resize 29 = .ok (.invokevirtual 144, 3) := by decide +kernel
theorem dX4_resize_32 : decode cX4_resize 32 = .ok (.istore_n 3, 1) := by decide +kernel
theorem dX4_resize_33 : decode cX4_resize 33 = .ok (.iload_n 3, 1) := by decide +kernel
theorem dX4_resize_34 : decode cX4_resize 34 = .ok (.iconst (-1), 1) := by decide +kernel
theorem dX4_resize_35 : decode cX4_resize 35 = .ok (.if_icmp .ne 7, 3) := by decide +kernel
theorem dX4_resize_38 : decode cX4_resize 38 = .ok (.iconst 0, 1) := by decide +kernel
theorem dX4_resize_39 : decode cX4_resize 39 = .ok (.goto 11, 3) := by decide +kernel
theorem dX4_resize_42 : decode cX4_resize 42 = .ok (.aload_n 0, 1) := by decide +kernel
theorem dX4_resize_43 : decode cX4_resize 43 = .ok (.getfield 26, 3) := by decide +kernel
theorem dX4_resize_46 : decode cX4_resize 46 = .ok (.iload_n 3, 1) := by decide +kernel
theorem dX4_resize_47 : decode cX4_resize 47 = .ok (.invokevirtual 167, 3) := by decide +kernel
theorem dX4_resize_50 : decode cX4_resize 50 = .ok (.ireturn, 1) := by decide +kernel
theorem dX4_isBound_0 : decode cX4_isBound 0 = .ok (.aload_n 0, 1) := by decide +kernel
theorem dX4_isBound_1 : decode cX4_isBound 1 = .ok (.getfield 19, 3) := by decide +kernel
theorem dX4_isBound_4 : decode cX4_isBound 4 = .ok (.invokevirtual 178, 3) := by decide +kernel
theorem dX4_isBound_7 : decode cX4_isBound 7 = .ok (.ifCond .ne 32, 3) := by decide +kernel
theorem dX4_isBound_10 : decode cX4_isBound 10 = .ok (.aload_n 0, 1) := by decide +kernel
theorem dX4_isBound_11 : decode cX4_isBound 11 = .ok (.getfield 26, 3) := by decide +kernel
theorem dX4_isBound_14 : decode cX4_isBound 14 = .ok (.getfield 161, 3) := by decide +kernel
theorem dX4_isBound_17 : decode cX4_isBound 17 = .ok (.aload_n 0, 1) := by decide +kernel
theorem dX4_isBound_18 : decode cX4_isBound 18 = .ok (.getfield 19, 3) := by decide +kernel
theorem dX4_isBound_21 : decode cX4_isBound 21 = .ok (.invokevirtual 74, 3) := by decide +kernel
theorem dX4_isBound_24 : decode cX4_isBound 24 = .ok (.if_icmp .ne 15, 3) := by decide +kernel
theorem dX4_isBound_27 : decode cX4_isBound 27 = .ok (.aload_n 0, 1) := by decide +kernel
theorem dX4_isBound_28 : decode cX4_isBound 28 = .ok (.invokevirtual 181, 3) := by decide +kernel
theorem dX4_isBound_31 : decode cX4_isBound 31 = .ok (.iconst (-1), 1) := by decide +kernel
theorem dX4_isBound_32 : decode cX4_isBound 32 = .ok (.if_icmp .ne 7, 3) := by decide +kernel
theorem dX4_isBound_35 : decode cX4_isBound 35 = .ok (.iconst 1, 1) := by decide +kernel
theorem dX4_isBound_36 : decode cX4_isBound 36 = .ok (.goto 4, 3) := by decide +kernel
theorem dX4_isBound_39 : decode cX4_isBound 39 = .ok (.iconst 0, 1) := by decide +kernel
theorem dX4_isBound_40 : decode cX4_isBound 40 = .ok (.ireturn, 1) := by decide +kernel
theorem dX4_tells_0 : decode cX4_tells 0 = .ok (.aload_n 0, 1) := by decide +kernel
theorem dX4_tells_1 : decode cX4_tells 1 = .ok (.iload_n 1, 1) := by decide +kernel
theorem dX4_tells_2 : decode cX4_tells 2 = .ok (.invokevirtual 37, 3) := by decide +kernel
theorem dX4_tells_5 : decode cX4_tells 5 = .ok (.iload_n 2, 1) := by decide +kernel
theorem dX4_tells_6 : decode cX4_tells 6 = .ok (.ifCond .ge 13, 3) := by decide +kernel
theorem dX4_tells_9 : decode cX4_tells 9 = .ok (.new 170, 3) := by decide +kernel
theorem dX4_tells_12 : decode cX4_tells 12 = .ok (.dup, 1) := by decide +kernel
theorem dX4_tells_13 : decode cX4_tells 13 = .ok (.ldc 184, 2) := by decide +kernel
theorem dX4_tells_15 : decode cX4_tells 15 = .ok (.invokespecial 174, 3) := by decide +kernel
theorem dX4_tells_18 : decode cX4_tells 18 = .ok (.athrow, 1) := by decide +kernel
theorem dX4_tells_19 : decode cX4_tells 19 = .ok (.aload_n 0, 1) := by decide +kernel
theorem dX4_tells_20 : decode cX4_tells 20 = .ok (.getfield 10, 3) := by decide +kernel
theorem dX4_tells_23 : decode cX4_tells 23 = .ok (.iload_n 1, 1) := by decide +kernel
theorem dX4_tells_24 : decode cX4_tells 24 = .ok (.iload_n 2, 1) := by decide +kernel
theorem dX4_tells_25 : decode cX4_tells 25 = .ok (.invokevirtual 186, 3) := by decide +kernel
theorem dX4_tells_28 : decode cX4_tells 28 = .ok (.ireturn, 1) := by decide +kernel
theorem dX4_requireFold_0 : decode cX4_requireFold 0 = .ok (.iload_n 1, 1) := by decide +kernel
theorem dX4_requireFold_1 : decode cX4_requireFold 1 = .ok (.iconst 0, 1) := by decide +kernel
theorem dX4_requireFold_2 : decode cX4_requireFold 2 = .ok (.aload_n 0, 1) := by decide +kernel
theorem dX4_requireFold_3 : decode cX4_requireFold 3 = .ok (.getfield 10, 3) := by decide +kernel
theorem dX4_requireFold_6 : decode cX4_requireFold 6 = .ok (.getfield 52, 3) := by decide +kernel
theorem dX4_requireFold_9 : decode cX4_requireFold 9 = .ok (.iconst 1, 1) := by decide +kernel
theorem dX4_requireFold_10 : decode cX4_requireFold 10 = .ok (.isub, 1) := by decide +kernel
theorem dX4_requireFold_11 : decode cX4_requireFold 11 = .ok (.invokestatic 41, 3) := by decide +kernel
theorem dX4_requireFold_14 : decode cX4_requireFold 14 = .ok (.ifCond .eq 13, 3) := by decide +kernel
theorem dX4_requireFold_17 : decode cX4_requireFold 17 = .ok (.new 170, 3) := by decide +kernel
theorem dX4_requireFold_20 : decode cX4_requireFold 20 = .ok (.dup, 1) := by decide +kernel
theorem dX4_requireFold_21 : decode cX4_requireFold 21 = .ok (.ldc 190, 2) := by decide +kernel
theorem dX4_requireFold_23 : decode cX4_requireFold 23 = .ok (.invokespecial 174, 3) := by decide +kernel
theorem dX4_requireFold_26 : decode cX4_requireFold 26 = .ok (.athrow, 1) := by decide +kernel
theorem dX4_requireFold_27 : decode cX4_requireFold 27 = .ok (.return_, 1) := by decide +kernel
theorem dX4_requirePart_0 : decode cX4_requirePart 0 = .ok (.iload_n 1, 1) := by decide +kernel
theorem dX4_requirePart_1 : decode cX4_requirePart 1 = .ok (.iconst 0, 1) := by decide +kernel
theorem dX4_requirePart_2 : decode cX4_requirePart 2 = .ok (.aload_n 0, 1) := by decide +kernel
theorem dX4_requirePart_3 : decode cX4_requirePart 3 = .ok (.getfield 19, 3) := by decide +kernel
theorem dX4_requirePart_6 : decode cX4_requirePart 6 = .ok (.invokevirtual 74, 3) := by decide +kernel
theorem dX4_requirePart_9 : decode cX4_requirePart 9 = .ok (.iconst 1, 1) := by decide +kernel
theorem dX4_requirePart_10 : decode cX4_requirePart 10 = .ok (.isub, 1) := by decide +kernel
theorem dX4_requirePart_11 : decode cX4_requirePart 11 = .ok (.invokestatic 41, 3) := by decide +kernel
theorem dX4_requirePart_14 : decode cX4_requirePart 14 = .ok (.ifCond .eq 13, 3) := by decide +kernel
theorem dX4_requirePart_17 : decode cX4_requirePart 17 = .ok (.new 170, 3) := by decide +kernel
theorem dX4_requirePart_20 : decode cX4_requirePart 20 = .ok (.dup, 1) := by decide +kernel
theorem dX4_requirePart_21 : decode cX4_requirePart 21 = .ok (.ldc 192, 2) := by decide +kernel
theorem dX4_requirePart_23 : decode cX4_requirePart 23 = .ok (.invokespecial 174, 3) := by decide +kernel
theorem dX4_requirePart_26 : decode cX4_requirePart 26 = .ok (.athrow, 1) := by decide +kernel
theorem dX4_requirePart_27 : decode cX4_requirePart 27 = .ok (.return_, 1) := by decide +kernel
theorem dX4_requireOpen_0 : decode cX4_requireOpen 0 = .ok (.iload_n 0, 1) := by decide +kernel
theorem dX4_requireOpen_1 : decode cX4_requireOpen 1 = .ok (.iconst 0, 1) := by decide +kernel
theorem dX4_requireOpen_2 : decode cX4_requireOpen 2 = .ok (.sipush 180, 3) := by decide +kernel
theorem dX4_requireOpen_5 : decode cX4_requireOpen 5 = .ok (.invokestatic 41, 3) := by decide +kernel
theorem dX4_requireOpen_8 : decode cX4_requireOpen 8 = .ok (.ifCond .eq 13, 3) := by decide +kernel
theorem dX4_requireOpen_11 : decode cX4_requireOpen 11 = .ok (.new 45, 3) := by decide +kernel
theorem dX4_requireOpen_14 : decode cX4_requireOpen 14 = .ok (.dup, 1) := by decide +kernel
theorem dX4_requireOpen_15 : decode cX4_requireOpen 15 = .ok (.ldc 194, 2) := by decide +kernel
theorem dX4_requireOpen_17 : decode cX4_requireOpen 17 = .ok (.invokespecial 49, 3) := by decide +kernel
theorem dX4_requireOpen_20 : decode cX4_requireOpen 20 = .ok (.athrow, 1) := by decide +kernel
theorem dX4_requireOpen_21 : decode cX4_requireOpen 21 = .ok (.return_, 1) := by decide +kernel
theorem dX4_requireWhat_0 : decode cX4_requireWhat 0 = .ok (.iload_n 0, 1) := by decide +kernel
theorem dX4_requireWhat_1 : decode cX4_requireWhat 1 = .ok (.iconst 0, 1) := by decide +kernel
theorem dX4_requireWhat_2 : decode cX4_requireWhat 2 = .ok (.iconst 2, 1) := by decide +kernel
theorem dX4_requireWhat_3 : decode cX4_requireWhat 3 = .ok (.invokestatic 41, 3) := by decide +kernel
theorem dX4_requireWhat_6 : decode cX4_requireWhat 6 = .ok (.ifCond .eq 13, 3) := by decide +kernel
theorem dX4_requireWhat_9 : decode cX4_requireWhat 9 = .ok (.new 45, 3) := by decide +kernel
theorem dX4_requireWhat_12 : decode cX4_requireWhat 12 = .ok (.dup, 1) := by decide +kernel
theorem dX4_requireWhat_13 : decode cX4_requireWhat 13 = .ok (.ldc 196, 2) := by decide +kernel
theorem dX4_requireWhat_15 : decode cX4_requireWhat 15 = .ok (.invokespecial 49, 3) := by decide +kernel
theorem dX4_requireWhat_18 : decode cX4_requireWhat 18 = .ok (.athrow, 1) := by decide +kernel
theorem dX4_requireWhat_19 : decode cX4_requireWhat 19 = .ok (.return_, 1) := by decide +kernel
theorem dX4_requireLength_0 : decode cX4_requireLength 0 = .ok (.iload_n 0, 1) := by decide +kernel
theorem dX4_requireLength_1 : decode cX4_requireLength 1 = .ok (.iconst 1, 1) := by decide +kernel
theorem dX4_requireLength_2 : decode cX4_requireLength 2 = .ok (.bipush 30, 2) := by decide +kernel
theorem dX4_requireLength_4 : decode cX4_requireLength 4 = .ok (.invokestatic 41, 3) := by decide +kernel
theorem dX4_requireLength_7 : decode cX4_requireLength 7 = .ok (.ifCond .eq 13, 3) := by decide +kernel
theorem dX4_requireLength_10 : decode cX4_requireLength 10 = .ok (.new 45, 3) := by decide +kernel
theorem dX4_requireLength_13 : decode cX4_requireLength 13 = .ok (.dup, 1) := by decide +kernel
theorem dX4_requireLength_14 : decode cX4_requireLength 14 = .ok (.ldc 198, 2) := by decide +kernel
theorem dX4_requireLength_16 : decode cX4_requireLength 16 = .ok (.invokespecial 49, 3) := by decide +kernel
theorem dX4_requireLength_19 : decode cX4_requireLength 19 = .ok (.athrow, 1) := by decide +kernel
theorem dX4_requireLength_20 : decode cX4_requireLength 20 = .ok (.return_, 1) := by decide +kernel
theorem dX4_isOutside_0 : decode cX4_isOutside 0 = .ok (.iload_n 0, 1) := by decide +kernel
theorem dX4_isOutside_1 : decode cX4_isOutside 1 = .ok (.iload_n 1, 1) := by decide +kernel
theorem dX4_isOutside_2 : decode cX4_isOutside 2 = .ok (.if_icmp .lt 8, 3) := by decide +kernel
theorem dX4_isOutside_5 : decode cX4_isOutside 5 = .ok (.iload_n 0, 1) := by decide +kernel
theorem dX4_isOutside_6 : decode cX4_isOutside 6 = .ok (.iload_n 2, 1) := by decide +kernel
theorem dX4_isOutside_7 : decode cX4_isOutside 7 = .ok (.if_icmp .le 7, 3) := by decide +kernel
theorem dX4_isOutside_10 : decode cX4_isOutside 10 = .ok (.iconst 1, 1) := by decide +kernel
theorem dX4_isOutside_11 : decode cX4_isOutside 11 = .ok (.goto 4, 3) := by decide +kernel
theorem dX4_isOutside_14 : decode cX4_isOutside 14 = .ok (.iconst 0, 1) := by decide +kernel
theorem dX4_isOutside_15 : decode cX4_isOutside 15 = .ok (.ireturn, 1) := by decide +kernel
theorem dX4_firstThatMeetsAnother_0 : decode cX4_firstThatMeetsAnother 0 = .ok (.aload_n 0, 1) := by decide +kernel
theorem dX4_firstThatMeetsAnother_1 : decode cX4_firstThatMeetsAnother 1 = .ok (.getfield 10, 3) := by decide +kernel
theorem dX4_firstThatMeetsAnother_4 : decode cX4_firstThatMeetsAnother 4 = .ok (.iload_n 1, 1) := by decide +kernel
theorem dX4_firstThatMeetsAnother_5 : decode cX4_firstThatMeetsAnother 5 = .ok (.invokevirtual 91, 3) := by decide +kernel
theorem dX4_firstThatMeetsAnother_8 : decode cX4_firstThatMeetsAnother 8 = .ok (.astore_n 2, 1) := by decide +kernel
theorem dX4_firstThatMeetsAnother_9 : decode cX4_firstThatMeetsAnother 9 = .ok (.iconst 0, 1) := by decide +kernel
theorem dX4_firstThatMeetsAnother_10 : decode cX4_firstThatMeetsAnother 10 = .ok (.istore_n 3, 1) := by decide +kernel
theorem dX4_firstThatMeetsAnother_11 : decode cX4_firstThatMeetsAnother 11 = .ok (.iload_n 3, 1) := by decide +kernel
theorem dX4_firstThatMeetsAnother_12 : decode cX4_firstThatMeetsAnother 12 = .ok (.aload_n 0, 1) := by decide +kernel
theorem dX4_firstThatMeetsAnother_13 : decode cX4_firstThatMeetsAnother 13 = .ok (.getfield 19, 3) := by decide +kernel
theorem dX4_firstThatMeetsAnother_16 : decode cX4_firstThatMeetsAnother 16 = .ok (.invokevirtual 74, 3) := by decide +kernel
theorem dX4_firstThatMeetsAnother_19 : decode cX4_firstThatMeetsAnother 19 = .ok (.if_icmp .ge 64, 3) := by decide +kernel
theorem dX4_firstThatMeetsAnother_22 : decode cX4_firstThatMeetsAnother 22 = .ok (.iload_n 3, 1) := by decide +kernel
theorem dX4_firstThatMeetsAnother_23 : decode cX4_firstThatMeetsAnother 23 = .ok (.iconst 1, 1) := by decide +kernel
theorem dX4_firstThatMeetsAnother_24 : decode cX4_firstThatMeetsAnother 24 = .ok (.iadd, 1) := by decide +kernel
theorem dX4_firstThatMeetsAnother_25 : decode cX4_firstThatMeetsAnother 25 = .ok (.istore 4, 2) := by decide +kernel
theorem dX4_firstThatMeetsAnother_27 : decode cX4_firstThatMeetsAnother 27 = .ok (.iload 4, 2) := by decide +kernel
theorem dX4_firstThatMeetsAnother_29 : decode cX4_firstThatMeetsAnother 29 = .ok (.aload_n 0, 1) := by decide +kernel
theorem dX4_firstThatMeetsAnother_30 : decode cX4_firstThatMeetsAnother 30 = .ok (.getfield 19, 3) := by decide +kernel
theorem dX4_firstThatMeetsAnother_33 : decode cX4_firstThatMeetsAnother 33 = .ok (.invokevirtual 74, 3) := by decide +kernel
theorem dX4_firstThatMeetsAnother_36 : decode cX4_firstThatMeetsAnother 36 = .ok (.if_icmp .ge 41, 3) := by decide +kernel
theorem dX4_firstThatMeetsAnother_39 : decode cX4_firstThatMeetsAnother 39 = .ok (.aload_n 0, 1) := by decide +kernel
theorem dX4_firstThatMeetsAnother_40 : decode cX4_firstThatMeetsAnother 40 = .ok (.getfield 19, 3) := by decide +kernel
theorem dX4_firstThatMeetsAnother_43 : decode cX4_firstThatMeetsAnother 43 = .ok (.iload_n 3, 1) := by decide +kernel
theorem dX4_firstThatMeetsAnother_44 : decode cX4_firstThatMeetsAnother 44 = .ok (.invokevirtual 104, 3) := by decide +kernel
theorem dX4_firstThatMeetsAnother_47 : decode cX4_firstThatMeetsAnother 47 = .ok (.checkcast 80, 3) := by decide +kernel
theorem dX4_firstThatMeetsAnother_50 : decode cX4_firstThatMeetsAnother 50 = .ok (.aload_n 0, 1) := by decide +kernel
theorem dX4_firstThatMeetsAnother_51 : decode cX4_firstThatMeetsAnother 51 = .ok (.getfield 19, 3) := by decide +kernel
theorem dX4_firstThatMeetsAnother_54 : decode cX4_firstThatMeetsAnother 54 = .ok (.iload 4, 2) := by decide +kernel
theorem dX4_firstThatMeetsAnother_56 : decode cX4_firstThatMeetsAnother 56 = .ok (.invokevirtual 104, 3) := by decide +kernel
theorem dX4_firstThatMeetsAnother_59 : decode cX4_firstThatMeetsAnother 59 = .ok (.checkcast 80, 3) := by decide +kernel
theorem dX4_firstThatMeetsAnother_62 : decode cX4_firstThatMeetsAnother 62 = .ok (.aload_n 2, 1) := by decide +kernel
theorem dX4_firstThatMeetsAnother_63 : decode cX4_firstThatMeetsAnother 63 = .ok (.invokestatic 121, 3) := by decide +kernel
theorem dX4_firstThatMeetsAnother_66 : decode cX4_firstThatMeetsAnother 66 = .ok (.ifCond .eq 5, 3) := by decide +kernel
theorem dX4_firstThatMeetsAnother_69 : decode cX4_firstThatMeetsAnother 69 = .ok (.iload_n 3, 1) := by decide +kernel
theorem dX4_firstThatMeetsAnother_70 : decode cX4_firstThatMeetsAnother 70 = .ok (.ireturn, 1) := by decide +kernel
theorem dX4_firstThatMeetsAnother_71 : decode cX4_firstThatMeetsAnother 71 = .ok (.iinc 4 1, 3) := by decide +kernel
theorem dX4_firstThatMeetsAnother_74 : decode cX4_firstThatMeetsAnother 74 = .ok (.goto (-47), 3) := by decide +kernel
theorem dX4_firstThatMeetsAnother_77 : decode cX4_firstThatMeetsAnother 77 = .ok (.iinc 3 1, 3) := by decide +kernel
theorem dX4_firstThatMeetsAnother_80 : decode cX4_firstThatMeetsAnother 80 = .ok (.goto (-69), 3) := by decide +kernel
theorem dX4_firstThatMeetsAnother_83 : decode cX4_firstThatMeetsAnother 83 = .ok (.iconst (-1), 1) := by decide +kernel
theorem dX4_firstThatMeetsAnother_84 : decode cX4_firstThatMeetsAnother 84 = .ok (.ireturn, 1) := by decide +kernel
theorem dX4_doMeet_0 : decode cX4_doMeet 0 = .ok (.aload_n 2, 1) := by decide +kernel
theorem dX4_doMeet_1 : decode cX4_doMeet 1 = .ok (.aload_n 0, 1) := by decide +kernel
theorem dX4_doMeet_2 : decode cX4_doMeet 2 = .ok (.getfield 108, 3) := by decide +kernel
theorem dX4_doMeet_5 : decode cX4_doMeet 5 = .ok (.iaload, 1) := by decide +kernel
theorem dX4_doMeet_6 : decode cX4_doMeet 6 = .ok (.istore_n 3, 1) := by decide +kernel
theorem dX4_doMeet_7 : decode cX4_doMeet 7 = .ok (.aload_n 2, 1) := by decide +kernel
theorem dX4_doMeet_8 : decode cX4_doMeet 8 = .ok (.aload_n 1, 1) := by decide +kernel
theorem dX4_doMeet_9 : decode cX4_doMeet 9 = .ok (.getfield 108, 3) := by decide +kernel
theorem dX4_doMeet_12 : decode cX4_doMeet 12 = .ok (.iaload, 1) := by decide +kernel
theorem dX4_doMeet_13 : decode cX4_doMeet 13 = .ok (.istore 4, 2) := by decide +kernel
theorem dX4_doMeet_15 : decode cX4_doMeet 15 = .ok (.aload_n 0, 1) := by decide +kernel
theorem dX4_doMeet_16 : decode cX4_doMeet 16 = .ok (.iload_n 3, 1) := by decide +kernel
theorem dX4_doMeet_17 : decode cX4_doMeet 17 = .ok (.invokevirtual 111, 3) := by decide +kernel
theorem dX4_doMeet_20 : decode cX4_doMeet 20 = .ok (.istore 5, 2) := by decide +kernel
theorem dX4_doMeet_22 : decode cX4_doMeet 22 = .ok (.aload_n 1, 1) := by decide +kernel
theorem dX4_doMeet_23 : decode cX4_doMeet 23 = .ok (.iload 4, 2) := by decide +kernel
theorem dX4_doMeet_25 : decode cX4_doMeet 25 = .ok (.invokevirtual 111, 3) := by decide +kernel
theorem dX4_doMeet_28 : decode cX4_doMeet 28 = .ok (.istore 6, 2) := by decide +kernel
theorem dX4_doMeet_30 : decode cX4_doMeet 30 = .ok (.aload_n 0, 1) := by decide +kernel
theorem dX4_doMeet_31 : decode cX4_doMeet 31 = .ok (.aload_n 1, 1) := by decide +kernel
theorem dX4_doMeet_32 : decode cX4_doMeet 32 = .ok (.invokevirtual 200, 3) := by decide +kernel
theorem dX4_doMeet_35 : decode cX4_doMeet 35 = .ok (.ifCond .eq 57, 3) := by decide +kernel
theorem dX4_doMeet_38 : decode cX4_doMeet 38 = .ok (.aload_n 0, 1) := by decide +kernel
theorem dX4_doMeet_39 : decode cX4_doMeet 39 = .ok (.iload_n 3, 1) := by decide +kernel
theorem dX4_doMeet_40 : decode cX4_doMeet 40 = .ok (.invokevirtual 115, 3) := by decide +kernel
theorem dX4_doMeet_43 : decode cX4_doMeet 43 = .ok (.aload_n 1, 1) := by decide +kernel
theorem dX4_doMeet_44 : decode cX4_doMeet 44 = .ok (.iload 4, 2) := by decide +kernel
theorem dX4_doMeet_46 : decode cX4_doMeet 46 = .ok (.invokevirtual 118, 3) := by decide +kernel
theorem dX4_doMeet_49 : decode cX4_doMeet 49 = .ok (.if_icmp .gt 43, 3) := by decide +kernel
theorem dX4_doMeet_52 : decode cX4_doMeet 52 = .ok (.aload_n 1, 1) := by decide +kernel
theorem dX4_doMeet_53 : decode cX4_doMeet 53 = .ok (.iload 4, 2) := by decide +kernel
theorem dX4_doMeet_55 : decode cX4_doMeet 55 = .ok (.invokevirtual 115, 3) := by decide +kernel
theorem dX4_doMeet_58 : decode cX4_doMeet 58 = .ok (.aload_n 0, 1) := by decide +kernel
theorem dX4_doMeet_59 : decode cX4_doMeet 59 = .ok (.iload_n 3, 1) := by decide +kernel
theorem dX4_doMeet_60 : decode cX4_doMeet 60 = .ok (.invokevirtual 118, 3) := by decide +kernel
theorem dX4_doMeet_63 : decode cX4_doMeet 63 = .ok (.if_icmp .gt 29, 3) := by decide +kernel
theorem dX4_doMeet_66 : decode cX4_doMeet 66 = .ok (.iload 5, 2) := by decide +kernel
theorem dX4_doMeet_68 : decode cX4_doMeet 68 = .ok (.ifCond .le 24, 3) := by decide +kernel
theorem dX4_doMeet_71 : decode cX4_doMeet 71 = .ok (.iload 6, 2) := by decide +kernel
theorem dX4_doMeet_73 : decode cX4_doMeet 73 = .ok (.ifCond .le 19, 3) := by decide +kernel
theorem dX4_doMeet_76 : decode cX4_doMeet 76 = .ok (.iload 5, 2) := by decide +kernel
theorem dX4_doMeet_78 : decode cX4_doMeet 78 = .ok (.iload 6, 2) := by decide +kernel
theorem dX4_doMeet_80 : decode cX4_doMeet 80 = .ok (.isub, 1) := by decide +kernel
theorem dX4_doMeet_81 : decode cX4_doMeet 81 = .ok (.invokestatic 203, 3) := by decide +kernel
theorem dX4_doMeet_84 : decode cX4_doMeet 84 = .ok (.iconst 1, 1) := by decide +kernel
theorem dX4_doMeet_85 : decode cX4_doMeet 85 = .ok (.if_icmp .gt 7, 3) := by decide +kernel
theorem dX4_doMeet_88 : decode cX4_doMeet 88 = .ok (.iconst 1, 1) := by decide +kernel
theorem dX4_doMeet_89 : decode cX4_doMeet 89 = .ok (.goto 4, 3) := by decide +kernel
theorem dX4_doMeet_92 : decode cX4_doMeet 92 = .ok (.iconst 0, 1) := by decide +kernel
theorem dX4_doMeet_93 : decode cX4_doMeet 93 = .ok (.ireturn, 1) := by decide +kernel
theorem dX4_layAllParts_0 : decode cX4_layAllParts 0 = .ok (.aload_n 0, 1) := by decide +kernel
theorem dX4_layAllParts_1 : decode cX4_layAllParts 1 = .ok (.getfield 33, 3) := by decide +kernel
theorem dX4_layAllParts_4 : decode cX4_layAllParts 4 = .ok (.invokevirtual 208, 3) := by decide +kernel
theorem dX4_layAllParts_7 : decode cX4_layAllParts 7 = .ok (.iconst 0, 1) := by decide +kernel
theorem dX4_layAllParts_8 : decode cX4_layAllParts 8 = .ok (.istore_n 1, 1) := by decide +kernel
theorem dX4_layAllParts_9 : decode cX4_layAllParts 9 = .ok (.iload_n 1, 1) := by decide +kernel
theorem dX4_layAllParts_10 : decode cX4_layAllParts 10 = .ok (.aload_n 0, 1) := by decide +kernel
theorem dX4_layAllParts_11 : decode cX4_layAllParts 11 = .ok (.getfield 19, 3) := by decide +kernel
theorem dX4_layAllParts_14 : decode cX4_layAllParts 14 = .ok (.invokevirtual 74, 3) := by decide +kernel
theorem dX4_layAllParts_17 : decode cX4_layAllParts 17 = .ok (.if_icmp .ge 37, 3) := by decide +kernel
theorem dX4_layAllParts_20 : decode cX4_layAllParts 20 = .ok (.aload_n 0, 1) := by decide +kernel
theorem dX4_layAllParts_21 : decode cX4_layAllParts 21 = .ok (.getfield 19, 3) := by decide +kernel
theorem dX4_layAllParts_24 : decode cX4_layAllParts 24 = .ok (.iload_n 1, 1) := by decide +kernel
theorem dX4_layAllParts_25 : decode cX4_layAllParts 25 = .ok (.invokevirtual 104, 3) := by decide +kernel
theorem dX4_layAllParts_28 : decode cX4_layAllParts 28 = .ok (.checkcast 80, 3) := by decide +kernel
theorem dX4_layAllParts_31 : decode cX4_layAllParts 31 = .ok (.astore_n 2, 1) := by decide +kernel
theorem dX4_layAllParts_32 : decode cX4_layAllParts 32 = .ok (.aload_n 0, 1) := by decide +kernel
theorem dX4_layAllParts_33 : decode cX4_layAllParts 33 = .ok (.getfield 33, 3) := by decide +kernel
theorem dX4_layAllParts_36 : decode cX4_layAllParts 36 = .ok (.iload_n 1, 1) := by decide +kernel
theorem dX4_layAllParts_37 : decode cX4_layAllParts 37 = .ok (.aload_n 2, 1) := by decide +kernel
theorem dX4_layAllParts_38 : decode cX4_layAllParts 38 = .ok (.invokevirtual 211, 3) := by decide +kernel
theorem dX4_layAllParts_41 : decode cX4_layAllParts 41 = .ok (.aload_n 2, 1) := by decide +kernel
theorem dX4_layAllParts_42 : decode cX4_layAllParts 42 = .ok (.invokevirtual 214, 3) := by decide +kernel
theorem dX4_layAllParts_45 : decode cX4_layAllParts 45 = .ok (.invokevirtual 217, 3) := by decide +kernel
theorem dX4_layAllParts_48 : decode cX4_layAllParts 48 = .ok (.iinc 1 1, 3) := by decide +kernel
theorem dX4_layAllParts_51 : decode cX4_layAllParts 51 = .ok (.goto (-42), 3) := by decide +kernel
theorem dX4_layAllParts_54 : decode cX4_layAllParts 54 = .ok (.return_, 1) := by decide +kernel
theorem dX4_isStartCovered_0 : decode cX4_isStartCovered 0 = .ok (.aload_n 0, 1) := by decide +kernel
theorem dX4_isStartCovered_1 : decode cX4_isStartCovered 1 = .ok (.getfield 10, 3) := by decide +kernel
theorem dX4_isStartCovered_4 : decode cX4_isStartCovered 4 = .ok (.sipush 180, 3) := by decide +kernel
theorem dX4_isStartCovered_7 : decode cX4_isStartCovered 7 = .ok (.invokevirtual 91, 3) := by decide +kernel
theorem dX4_isStartCovered_10 : decode cX4_isStartCovered 10 = .ok (.astore_n 2, 1) := by decide +kernel
theorem dX4_isStartCovered_11 : decode cX4_isStartCovered 11 = .ok (.iconst 0, 1) := by decide +kernel
theorem dX4_isStartCovered_12 : decode cX4_isStartCovered 12 = .ok (.istore_n 3, 1) := by decide +kernel
theorem dX4_isStartCovered_13 : decode cX4_isStartCovered 13 = .ok (.iload_n 3, 1) := by decide +kernel
theorem dX4_isStartCovered_14 : decode cX4_isStartCovered 14 = .ok (.aload_n 0, 1) := by decide +kernel
theorem dX4_isStartCovered_15 : decode cX4_isStartCovered 15 = .ok (.getfield 26, 3) := by decide +kernel
theorem dX4_isStartCovered_18 : decode cX4_isStartCovered 18 = .ok (.getfield 161, 3) := by decide +kernel
theorem dX4_isStartCovered_21 : decode cX4_isStartCovered 21 = .ok (.if_icmp .ge 77, 3) := by decide +kernel
theorem dX4_isStartCovered_24 : decode cX4_isStartCovered 24 = .ok (.aload_n 0, 1) := by decide +kernel
theorem dX4_isStartCovered_25 : decode cX4_isStartCovered 25 = .ok (.getfield 19, 3) := by decide +kernel
theorem dX4_isStartCovered_28 : decode cX4_isStartCovered 28 = .ok (.aload_n 0, 1) := by decide +kernel
theorem dX4_isStartCovered_29 : decode cX4_isStartCovered 29 = .ok (.getfield 26, 3) := by decide +kernel
theorem dX4_isStartCovered_32 : decode cX4_isStartCovered 32 = .ok (.iload_n 3, 1) := by decide +kernel
theorem dX4_isStartCovered_33 : decode cX4_isStartCovered 33 = .ok (.invokevirtual 164, 3) := by decide +kernel
theorem dX4_isStartCovered_36 : decode cX4_isStartCovered 36 = .ok (.invokevirtual 104, 3) := by decide +kernel
theorem dX4_isStartCovered_39 : decode cX4_isStartCovered 39 = .ok (.checkcast 80, 3) := by decide +kernel
theorem dX4_isStartCovered_42 : decode cX4_isStartCovered 42 = .ok (.astore 4, 2) := by decide +kernel
theorem dX4_isStartCovered_44 : decode cX4_isStartCovered 44 = .ok (.aload_n 2, 1) := by decide +kernel
theorem dX4_isStartCovered_45 : decode cX4_isStartCovered 45 = .ok (.aload 4, 2) := by decide +kernel
theorem dX4_isStartCovered_47 : decode cX4_isStartCovered 47 = .ok (.getfield 108, 3) := by decide +kernel
theorem dX4_isStartCovered_50 : decode cX4_isStartCovered 50 = .ok (.iaload, 1) := by decide +kernel
theorem dX4_isStartCovered_51 : decode cX4_isStartCovered 51 = .ok (.istore 5, 2) := by decide +kernel
theorem dX4_isStartCovered_53 : decode cX4_isStartCovered 53 = .ok (.aload 4, 2) := by decide +kernel
theorem dX4_isStartCovered_55 : decode cX4_isStartCovered 55 = .ok (.aload_n 1, 1) := by decide +kernel
theorem dX4_isStartCovered_56 : decode cX4_isStartCovered 56 = .ok (.invokevirtual 200, 3) := by decide +kernel
theorem dX4_isStartCovered_59 : decode cX4_isStartCovered 59 = .ok (.ifCond .eq 33, 3) := by decide +kernel
theorem dX4_isStartCovered_62 : decode cX4_isStartCovered 62 = .ok (.aload 4, 2) := by decide +kernel
theorem dX4_isStartCovered_64 : decode cX4_isStartCovered 64 = .ok (.iload 5, 2) := by decide +kernel
theorem dX4_isStartCovered_66 : decode cX4_isStartCovered 66 = .ok (.invokevirtual 115, 3) := by decide +kernel
theorem dX4_isStartCovered_69 : decode cX4_isStartCovered 69 = .ok (.aload_n 1, 1) := by decide +kernel
theorem dX4_isStartCovered_70 : decode cX4_isStartCovered 70 = .ok (.getfield 221, 3) := by decide +kernel
theorem dX4_isStartCovered_73 : decode cX4_isStartCovered 73 = .ok (.if_icmp .gt 19, 3) := by decide +kernel
theorem dX4_isStartCovered_76 : decode cX4_isStartCovered 76 = .ok (.aload_n 1, 1) := by decide +kernel
theorem dX4_isStartCovered_77 : decode cX4_isStartCovered 77 = .ok (.getfield 221, 3) := by decide +kernel
theorem dX4_isStartCovered_80 : decode cX4_isStartCovered 80 = .ok (.aload 4, 2) := by decide +kernel
theorem dX4_isStartCovered_82 : decode cX4_isStartCovered 82 = .ok (.iload 5, 2) := by decide +kernel
theorem dX4_isStartCovered_84 : decode cX4_isStartCovered 84 = .ok (.invokevirtual 118, 3) := by decide +kernel
theorem dX4_isStartCovered_87 : decode cX4_isStartCovered 87 = .ok (.if_icmp .gt 5, 3) := by decide +kernel
theorem dX4_isStartCovered_90 : decode cX4_isStartCovered 90 = .ok (.iconst 1, 1) := by decide +kernel
theorem dX4_isStartCovered_91 : decode cX4_isStartCovered 91 = .ok (.ireturn, 1) := by decide +kernel
theorem dX4_isStartCovered_92 : decode cX4_isStartCovered 92 = .ok (.iinc 3 1, 3) := by decide +kernel
theorem dX4_isStartCovered_95 : decode cX4_isStartCovered 95 = .ok (.goto (-82), 3) := by decide +kernel
theorem dX4_isStartCovered_98 : decode cX4_isStartCovered 98 = .ok (.iconst 0, 1) := by decide +kernel
theorem dX4_isStartCovered_99 : decode cX4_isStartCovered 99 = .ok (.ireturn, 1) := by decide +kernel
theorem dX4_hasHold_0 : decode cX4_hasHold 0 = .ok (.aload_n 1, 1) := by decide +kernel
theorem dX4_hasHold_1 : decode cX4_hasHold 1 = .ok (.getfield 108, 3) := by decide +kernel
theorem dX4_hasHold_4 : decode cX4_hasHold 4 = .ok (.ifCond .ne 5, 3) := by decide +kernel
theorem dX4_hasHold_7 : decode cX4_hasHold 7 = .ok (.iconst 1, 1) := by decide +kernel
theorem dX4_hasHold_8 : decode cX4_hasHold 8 = .ok (.ireturn, 1) := by decide +kernel
theorem dX4_hasHold_9 : decode cX4_hasHold 9 = .ok (.aload_n 0, 1) := by decide +kernel
theorem dX4_hasHold_10 : decode cX4_hasHold 10 = .ok (.getfield 10, 3) := by decide +kernel
theorem dX4_hasHold_13 : decode cX4_hasHold 13 = .ok (.getfield 224, 3) := by decide +kernel
theorem dX4_hasHold_16 : decode cX4_hasHold 16 = .ok (.aload_n 1, 1) := by decide +kernel
theorem dX4_hasHold_17 : decode cX4_hasHold 17 = .ok (.getfield 108, 3) := by decide +kernel
theorem dX4_hasHold_20 : decode cX4_hasHold 20 = .ok (.iaload, 1) := by decide +kernel
theorem dX4_hasHold_21 : decode cX4_hasHold 21 = .ok (.istore_n 2, 1) := by decide +kernel
theorem dX4_hasHold_22 : decode cX4_hasHold 22 = .ok (.iconst 0, 1) := by decide +kernel
theorem dX4_hasHold_23 : decode cX4_hasHold 23 = .ok (.istore_n 3, 1) := by decide +kernel
theorem dX4_hasHold_24 : decode cX4_hasHold 24 = .ok (.iload_n 3, 1) := by decide +kernel
theorem dX4_hasHold_25 : decode cX4_hasHold 25 = .ok (.aload_n 0, 1) := by decide +kernel
theorem dX4_hasHold_26 : decode cX4_hasHold 26 = .ok (.getfield 26, 3) := by decide +kernel
theorem dX4_hasHold_29 : decode cX4_hasHold 29 = .ok (.getfield 161, 3) := by decide +kernel
theorem dX4_hasHold_32 : decode cX4_hasHold 32 = .ok (.if_icmp .ge 36, 3) := by decide +kernel
theorem dX4_hasHold_35 : decode cX4_hasHold 35 = .ok (.aload_n 0, 1) := by decide +kernel
theorem dX4_hasHold_36 : decode cX4_hasHold 36 = .ok (.getfield 19, 3) := by decide +kernel
theorem dX4_hasHold_39 : decode cX4_hasHold 39 = .ok (.aload_n 0, 1) := by decide +kernel
theorem dX4_hasHold_40 : decode cX4_hasHold 40 = .ok (.getfield 26, 3) := by decide +kernel
theorem dX4_hasHold_43 : decode cX4_hasHold 43 = .ok (.iload_n 3, 1) := by decide +kernel
theorem dX4_hasHold_44 : decode cX4_hasHold 44 = .ok (.invokevirtual 164, 3) := by decide +kernel
theorem dX4_hasHold_47 : decode cX4_hasHold 47 = .ok (.invokevirtual 104, 3) := by decide +kernel
theorem dX4_hasHold_50 : decode cX4_hasHold 50 = .ok (.checkcast 80, 3) := by decide +kernel
theorem dX4_hasHold_53 : decode cX4_hasHold 53 = .ok (.getfield 108, 3) := by decide +kernel
theorem dX4_hasHold_56 : decode cX4_hasHold 56 = .ok (.iload_n 2, 1) := by decide +kernel
theorem dX4_hasHold_57 : decode cX4_hasHold 57 = .ok (.if_icmp .ne 5, 3) := by decide +kernel
theorem dX4_hasHold_60 : decode cX4_hasHold 60 = .ok (.iconst 1, 1) := by decide +kernel
theorem dX4_hasHold_61 : decode cX4_hasHold 61 = .ok (.ireturn, 1) := by decide +kernel
theorem dX4_hasHold_62 : decode cX4_hasHold 62 = .ok (.iinc 3 1, 3) := by decide +kernel
theorem dX4_hasHold_65 : decode cX4_hasHold 65 = .ok (.goto (-41), 3) := by decide +kernel
theorem dX4_hasHold_68 : decode cX4_hasHold 68 = .ok (.iconst 0, 1) := by decide +kernel
theorem dX4_hasHold_69 : decode cX4_hasHold 69 = .ok (.ireturn, 1) := by decide +kernel
