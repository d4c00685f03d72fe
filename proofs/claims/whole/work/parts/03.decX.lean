theorem dX0_init_0 : decode cX0_init 0 = .ok (.aload_n 0, 1) := by decide +kernel
theorem dX0_init_1 : decode cX0_init 1 = .ok (.invokespecial 3, 3) := by decide +kernel
theorem dX0_init_4 : decode cX0_init 4 = .ok (.aload_n 0, 1) := by decide +kernel
theorem dX0_init_5 : decode cX0_init 5 = .ok (.iload_n 1, 1) := by decide +kernel
theorem dX0_init_6 : decode cX0_init 6 = .ok (.putfield 9, 3) := by decide +kernel
theorem dX0_init_9 : decode cX0_init 9 = .ok (.aload_n 0, 1) := by decide +kernel
theorem dX0_init_10 : decode cX0_init 10 = .ok (.aload_n 2, 1) := by decide +kernel
theorem dX0_init_11 : decode cX0_init 11 = .ok (.putfield 15, 3) := by decide +kernel
theorem dX0_init_14 : decode cX0_init 14 = .ok (.aload_n 0, 1) := by decide +kernel
theorem dX0_init_15 : decode cX0_init 15 = .ok (.iload_n 3, 1) := by decide +kernel
theorem dX0_init_16 : decode cX0_init 16 = .ok (.putfield 19, 3) := by decide +kernel
theorem dX0_init_19 : decode cX0_init 19 = .ok (.aload_n 0, 1) := by decide +kernel
theorem dX0_init_20 : decode cX0_init 20 = .ok (.iload 4, 2) := by decide +kernel
theorem dX0_init_22 : decode cX0_init 22 = .ok (.putfield 22, 3) := by decide +kernel
theorem dX0_init_25 : decode cX0_init 25 = .ok (.return_, 1) := by decide +kernel
theorem dX0_openTo_0 : decode cX0_openTo 0 = .ok (.aload_n 0, 1) := by decide +kernel
theorem dX0_openTo_1 : decode cX0_openTo 1 = .ok (.getfield 15, 3) := by decide +kernel
theorem dX0_openTo_4 : decode cX0_openTo 4 = .ok (.ifnonnull 11, 3) := by decide +kernel
theorem dX0_openTo_7 : decode cX0_openTo 7 = .ok (.aload_n 0, 1) := by decide +kernel
theorem dX0_openTo_8 : decode cX0_openTo 8 = .ok (.iload_n 1, 1) := by decide +kernel
theorem dX0_openTo_9 : decode cX0_openTo 9 = .ok (.putfield 25, 3) := by decide +kernel
theorem dX0_openTo_12 : decode cX0_openTo 12 = .ok (.goto 27, 3) := by decide +kernel
theorem dX0_openTo_15 : decode cX0_openTo 15 = .ok (.aload_n 0, 1) := by decide +kernel
theorem dX0_openTo_16 : decode cX0_openTo 16 = .ok (.aload_n 0, 1) := by decide +kernel
theorem dX0_openTo_17 : decode cX0_openTo 17 = .ok (.getfield 15, 3) := by decide +kernel
theorem dX0_openTo_20 : decode cX0_openTo 20 = .ok (.getfield 25, 3) := by decide +kernel
theorem dX0_openTo_23 : decode cX0_openTo 23 = .ok (.aload_n 0, 1) := by decide +kernel
theorem dX0_openTo_24 : decode cX0_openTo 24 = .ok (.getfield 19, 3) := by decide +kernel
theorem dX0_openTo_27 : decode cX0_openTo 27 = .ok (.imul, 1) := by decide +kernel
theorem dX0_openTo_28 : decode cX0_openTo 28 = .ok (.putfield 28, 3) := by decide +kernel
theorem dX0_openTo_31 : decode cX0_openTo 31 = .ok (.aload_n 0, 1) := by decide +kernel
theorem dX0_openTo_32 : decode cX0_openTo 32 = .ok (.aload_n 0, 1) := by decide +kernel
theorem dX0_openTo_33 : decode cX0_openTo 33 = .ok (.invokevirtual 31, 3) := by decide +kernel
theorem dX0_openTo_36 : decode cX0_openTo 36 = .ok (.putfield 25, 3) := by decide +kernel
theorem dX0_openTo_39 : decode cX0_openTo 39 = .ok (.return_, 1) := by decide +kernel
theorem dX0_openOneDegree_0 : decode cX0_openOneDegree 0 = .ok (.aload_n 0, 1) := by decide +kernel
theorem dX0_openOneDegree_1 : decode cX0_openOneDegree 1 = .ok (.getfield 25, 3) := by decide +kernel
theorem dX0_openOneDegree_4 : decode cX0_openOneDegree 4 = .ok (.istore_n 1, 1) := by decide +kernel
theorem dX0_openOneDegree_5 : decode cX0_openOneDegree 5 = .ok (.aload_n 0, 1) := by decide +kernel
theorem dX0_openOneDegree_6 : decode cX0_openOneDegree 6 = .ok (.getfield 15, 3) := by decide +kernel
theorem dX0_openOneDegree_9 : decode cX0_openOneDegree 9 = .ok (.ifnonnull 16, 3) := by decide +kernel
theorem dX0_openOneDegree_12 : decode cX0_openOneDegree 12 = .ok (.aload_n 0, 1) := by decide +kernel
theorem dX0_openOneDegree_13 : decode cX0_openOneDegree 13 = .ok (.dup, 1) := by decide +kernel
theorem dX0_openOneDegree_14 : decode cX0_openOneDegree 14 = .ok (.getfield 25, 3) := by decide +kernel
theorem dX0_openOneDegree_17 : decode cX0_openOneDegree 17 = .ok (.iconst 1, 1) := by decide +kernel
theorem dX0_openOneDegree_18 : decode cX0_openOneDegree 18 = .ok (.iadd, 1) := by decide +kernel
theorem dX0_openOneDegree_19 : decode cX0_openOneDegree 19 = .ok (.putfield 25, 3) := by decide +kernel
theorem dX0_openOneDegree_22 : decode cX0_openOneDegree 22 = .ok (.goto 32, 3) := by decide +kernel
theorem dX0_openOneDegree_25 : decode cX0_openOneDegree 25 = .ok (.aload_n 0, 1) := by decide +kernel
theorem dX0_openOneDegree_26 : decode cX0_openOneDegree 26 = .ok (.dup, 1) := by decide +kernel
theorem dX0_openOneDegree_27 : decode cX0_openOneDegree 27 = .ok (.getfield 28, 3) := by decide +kernel
theorem dX0_openOneDegree_30 : decode cX0_openOneDegree 30 = .ok (.aload_n 0, 1) := by decide +kernel
theorem dX0_openOneDegree_31 : decode cX0_openOneDegree 31 = .ok (.getfield 15, 3) := by decide +kernel
theorem dX0_openOneDegree_34 : decode cX0_openOneDegree 34 = .ok (.getfield 35, 3) := by decide +kernel
theorem dX0_openOneDegree_37 : decode cX0_openOneDegree 37 = .ok (.aload_n 0, 1) := by decide +kernel
theorem dX0_openOneDegree_38 : decode cX0_openOneDegree 38 = .ok (.getfield 19, 3) := by decide +kernel
theorem dX0_openOneDegree_41 : decode cX0_openOneDegree 41 = .ok (.imul, 1) := by decide +kernel
theorem dX0_openOneDegree_42 : decode cX0_openOneDegree 42 = .ok (.iadd, 1) := by decide +kernel
theorem dX0_openOneDegree_43 : decode cX0_openOneDegree 43 = .ok (.putfield 28, 3) := by decide +kernel
theorem dX0_openOneDegree_46 : decode cX0_openOneDegree 46 = .ok (.aload_n 0, 1) := by decide +kernel
theorem dX0_openOneDegree_47 : decode cX0_openOneDegree 47 = .ok (.aload_n 0, 1) := by decide +kernel
theorem dX0_openOneDegree_48 : decode cX0_openOneDegree 48 = .ok (.invokevirtual 31, 3) := by decide +kernel
theorem dX0_openOneDegree_51 : decode cX0_openOneDegree 51 = .ok (.putfield 25, 3) := by decide +kernel
theorem dX0_openOneDegree_54 : decode cX0_openOneDegree 54 = .ok (.aload_n 0, 1) := by decide +kernel
theorem dX0_openOneDegree_55 : decode cX0_openOneDegree 55 = .ok (.aload_n 0, 1) := by decide +kernel
theorem dX0_openOneDegree_56 : decode cX0_openOneDegree 56 = .ok (.getfield 25, 3) := by decide +kernel
theorem dX0_openOneDegree_59 : decode cX0_openOneDegree 59 = .ok (.iload_n 1, 1) := by decide +kernel
theorem dX0_openOneDegree_60 : decode cX0_openOneDegree 60 = .ok (.isub, 1) := by decide +kernel
theorem dX0_openOneDegree_61 : decode cX0_openOneDegree 61 = .ok (.putfield 35, 3) := by decide +kernel
theorem dX0_openOneDegree_64 : decode cX0_openOneDegree 64 = .ok (.return_, 1) := by decide +kernel
theorem dX0_angleOfPulled_0 : decode cX0_angleOfPulled 0 = .ok (.iconst 0, 1) := by decide +kernel
theorem dX0_angleOfPulled_1 : decode cX0_angleOfPulled 1 = .ok (.sipush 180, 3) := by decide +kernel
theorem dX0_angleOfPulled_4 : decode cX0_angleOfPulled 4 = .ok (.aload_n 0, 1) := by decide +kernel
theorem dX0_angleOfPulled_5 : decode cX0_angleOfPulled 5 = .ok (.getfield 28, 3) := by decide +kernel
theorem dX0_angleOfPulled_8 : decode cX0_angleOfPulled 8 = .ok (.iconst 4, 1) := by decide +kernel
theorem dX0_angleOfPulled_9 : decode cX0_angleOfPulled 9 = .ok (.invokestatic 38, 3) := by decide +kernel
theorem dX0_angleOfPulled_12 : decode cX0_angleOfPulled 12 = .ok (.aload_n 0, 1) := by decide +kernel
theorem dX0_angleOfPulled_13 : decode cX0_angleOfPulled 13 = .ok (.getfield 22, 3) := by decide +kernel
theorem dX0_angleOfPulled_16 : decode cX0_angleOfPulled 16 = .ok (.iadd, 1) := by decide +kernel
theorem dX0_angleOfPulled_17 : decode cX0_angleOfPulled 17 = .ok (.invokestatic 44, 3) := by decide +kernel
theorem dX0_angleOfPulled_20 : decode cX0_angleOfPulled 20 = .ok (.invokestatic 47, 3) := by decide +kernel
theorem dX0_angleOfPulled_23 : decode cX0_angleOfPulled 23 = .ok (.ireturn, 1) := by decide +kernel
theorem dX0_tellTo_0 : decode cX0_tellTo 0 = .ok (.aload_n 1, 1) := by decide +kernel
theorem dX0_tellTo_1 : decode cX0_tellTo 1 = .ok (.bipush 102, 2) := by decide +kernel
theorem dX0_tellTo_3 : decode cX0_tellTo 3 = .ok (.invokevirtual 50, 3) := by decide +kernel
theorem dX0_tellTo_6 : decode cX0_tellTo 6 = .ok (.aload_n 0, 1) := by decide +kernel
theorem dX0_tellTo_7 : decode cX0_tellTo 7 = .ok (.getfield 9, 3) := by decide +kernel
theorem dX0_tellTo_10 : decode cX0_tellTo 10 = .ok (.invokevirtual 56, 3) := by decide +kernel
theorem dX0_tellTo_13 : decode cX0_tellTo 13 = .ok (.pop, 1) := by decide +kernel
theorem dX0_tellTo_14 : decode cX0_tellTo 14 = .ok (.aload_n 0, 1) := by decide +kernel
theorem dX0_tellTo_15 : decode cX0_tellTo 15 = .ok (.getfield 15, 3) := by decide +kernel
theorem dX0_tellTo_18 : decode cX0_tellTo 18 = .ok (.ifnull 53, 3) := by decide +kernel
theorem dX0_tellTo_21 : decode cX0_tellTo 21 = .ok (.aload_n 1, 1) := by decide +kernel
theorem dX0_tellTo_22 : decode cX0_tellTo 22 = .ok (.bipush 42, 2) := by decide +kernel
theorem dX0_tellTo_24 : decode cX0_tellTo 24 = .ok (.invokevirtual 50, 3) := by decide +kernel
theorem dX0_tellTo_27 : decode cX0_tellTo 27 = .ok (.aload_n 0, 1) := by decide +kernel
theorem dX0_tellTo_28 : decode cX0_tellTo 28 = .ok (.getfield 19, 3) := by decide +kernel
theorem dX0_tellTo_31 : decode cX0_tellTo 31 = .ok (.invokevirtual 56, 3) := by decide +kernel
theorem dX0_tellTo_34 : decode cX0_tellTo 34 = .ok (.pop, 1) := by decide +kernel
theorem dX0_tellTo_35 : decode cX0_tellTo 35 = .ok (.aload_n 1, 1) := by decide +kernel
theorem dX0_tellTo_36 : decode cX0_tellTo 36 = .ok (.aload_n 0, 1) := by decide +kernel
theorem dX0_tellTo_37 : decode cX0_tellTo 37 = .ok (.getfield 22, 3) := by decide +kernel
theorem dX0_tellTo_40 : decode cX0_tellTo 40 = .ok (.ifCond .ge 8, 3) := by decide +kernel
theorem dX0_tellTo_43 : decode cX0_tellTo 43 = .ok (.bipush 45, 2) := by decide +kernel
theorem dX0_tellTo_45 : decode cX0_tellTo 45 = .ok (.goto 5, 3) := by decide +kernel
theorem dX0_tellTo_48 : decode cX0_tellTo 48 = .ok (.bipush 43, 2) := by decide +kernel
theorem dX0_tellTo_50 : decode cX0_tellTo 50 = .ok (.invokevirtual 50, 3) := by decide +kernel
theorem dX0_tellTo_53 : decode cX0_tellTo 53 = .ok (.aload_n 0, 1) := by decide +kernel
theorem dX0_tellTo_54 : decode cX0_tellTo 54 = .ok (.getfield 22, 3) := by decide +kernel
theorem dX0_tellTo_57 : decode cX0_tellTo 57 = .ok (.invokestatic 59, 3) := by decide +kernel
theorem dX0_tellTo_60 : decode cX0_tellTo 60 = .ok (.invokevirtual 56, 3) := by decide +kernel
theorem dX0_tellTo_63 : decode cX0_tellTo 63 = .ok (.pop, 1) := by decide +kernel
theorem dX0_tellTo_64 : decode cX0_tellTo 64 = .ok (.aload_n 1, 1) := by decide +kernel
theorem dX0_tellTo_65 : decode cX0_tellTo 65 = .ok (.ldc 63, 2) := by decide +kernel
theorem dX0_tellTo_67 : decode cX0_tellTo 67 = .ok (.invokevirtual 65, 3) := by decide +kernel
theorem dX0_tellTo_70 : decode cX0_tellTo 70 = .ok (.pop, 1) := by decide +kernel
theorem dX0_tellTo_71 : decode cX0_tellTo 71 = .ok (.return_, 1) := by decide +kernel
theorem dX3_init_0 : decode cX3_init 0 = .ok (.aload_n 0, 1) := by decide +kernel
theorem dX3_init_1 : decode cX3_init 1 = .ok (.invokespecial 3, 3) := by decide +kernel
theorem dX3_init_4 : decode cX3_init 4 = .ok (.aload_n 0, 1) := by decide +kernel
theorem dX3_init_5 : decode cX3_init 5 = .ok (.iconst (-1), 1) := by decide +kernel
theorem dX3_init_6 : decode cX3_init 6 = .ok (.putfield 9, 3) := by decide +kernel
theorem dX3_init_9 : decode cX3_init 9 = .ok (.aload_n 0, 1) := by decide +kernel
theorem dX3_init_10 : decode cX3_init 10 = .ok (.aload_n 1, 1) := by decide +kernel
theorem dX3_init_11 : decode cX3_init 11 = .ok (.putfield 15, 3) := by decide +kernel
theorem dX3_init_14 : decode cX3_init 14 = .ok (.aload_n 0, 1) := by decide +kernel
theorem dX3_init_15 : decode cX3_init 15 = .ok (.iload_n 2, 1) := by decide +kernel
theorem dX3_init_16 : decode cX3_init 16 = .ok (.putfield 19, 3) := by decide +kernel
theorem dX3_init_19 : decode cX3_init 19 = .ok (.aload_n 0, 1) := by decide +kernel
theorem dX3_init_20 : decode cX3_init 20 = .ok (.iload_n 3, 1) := by decide +kernel
theorem dX3_init_21 : decode cX3_init 21 = .ok (.putfield 22, 3) := by decide +kernel
theorem dX3_init_24 : decode cX3_init 24 = .ok (.aload_n 0, 1) := by decide +kernel
theorem dX3_init_25 : decode cX3_init 25 = .ok (.iload 4, 2) := by decide +kernel
theorem dX3_init_27 : decode cX3_init 27 = .ok (.putfield 25, 3) := by decide +kernel
theorem dX3_init_30 : decode cX3_init 30 = .ok (.aload_n 0, 1) := by decide +kernel
theorem dX3_init_31 : decode cX3_init 31 = .ok (.iload 5, 2) := by decide +kernel
theorem dX3_init_33 : decode cX3_init 33 = .ok (.putfield 28, 3) := by decide +kernel
theorem dX3_init_36 : decode cX3_init 36 = .ok (.aload_n 0, 1) := by decide +kernel
theorem dX3_init_37 : decode cX3_init 37 = .ok (.iload 6, 2) := by decide +kernel
theorem dX3_init_39 : decode cX3_init 39 = .ok (.putfield 31, 3) := by decide +kernel
theorem dX3_init_42 : decode cX3_init 42 = .ok (.return_, 1) := by decide +kernel
theorem dX3_isGlued_0 : decode cX3_isGlued 0 = .ok (.aload_n 0, 1) := by decide +kernel
theorem dX3_isGlued_1 : decode cX3_isGlued 1 = .ok (.getfield 9, 3) := by decide +kernel
theorem dX3_isGlued_4 : decode cX3_isGlued 4 = .ok (.iconst (-1), 1) := by decide +kernel
theorem dX3_isGlued_5 : decode cX3_isGlued 5 = .ok (.if_icmp .eq 7, 3) := by decide +kernel
theorem dX3_isGlued_8 : decode cX3_isGlued 8 = .ok (.iconst 1, 1) := by decide +kernel
theorem dX3_isGlued_9 : decode cX3_isGlued 9 = .ok (.goto 4, 3) := by decide +kernel
theorem dX3_isGlued_12 : decode cX3_isGlued 12 = .ok (.iconst 0, 1) := by decide +kernel
theorem dX3_isGlued_13 : decode cX3_isGlued 13 = .ok (.ireturn, 1) := by decide +kernel
theorem dX3_rise_0 : decode cX3_rise 0 = .ok (.aload_n 0, 1) := by decide +kernel
theorem dX3_rise_1 : decode cX3_rise 1 = .ok (.getfield 22, 3) := by decide +kernel
theorem dX3_rise_4 : decode cX3_rise 4 = .ok (.aload_n 0, 1) := by decide +kernel
theorem dX3_rise_5 : decode cX3_rise 5 = .ok (.getfield 15, 3) := by decide +kernel
theorem dX3_rise_8 : decode cX3_rise 8 = .ok (.getfield 35, 3) := by decide +kernel
theorem dX3_rise_11 : decode cX3_rise 11 = .ok (.sipush 180, 3) := by decide +kernel
theorem dX3_rise_14 : decode cX3_rise 14 = .ok (.aload_n 0, 1) := by decide +kernel
theorem dX3_rise_15 : decode cX3_rise 15 = .ok (.getfield 15, 3) := by decide +kernel
theorem dX3_rise_18 : decode cX3_rise 18 = .ok (.getfield 35, 3) := by decide +kernel
theorem dX3_rise_21 : decode cX3_rise 21 = .ok (.isub, 1) := by decide +kernel
theorem dX3_rise_22 : decode cX3_rise 22 = .ok (.invokestatic 40, 3) := by decide +kernel
theorem dX3_rise_25 : decode cX3_rise 25 = .ok (.imul, 1) := by decide +kernel
theorem dX3_rise_26 : decode cX3_rise 26 = .ok (.bipush 90, 2) := by decide +kernel
theorem dX3_rise_28 : decode cX3_rise 28 = .ok (.idiv, 1) := by decide +kernel
theorem dX3_rise_29 : decode cX3_rise 29 = .ok (.ireturn, 1) := by decide +kernel
theorem dX3_reach_0 : decode cX3_reach 0 = .ok (.aload_n 0, 1) := by decide +kernel
theorem dX3_reach_1 : decode cX3_reach 1 = .ok (.getfield 19, 3) := by decide +kernel
theorem dX3_reach_4 : decode cX3_reach 4 = .ok (.aload_n 0, 1) := by decide +kernel
theorem dX3_reach_5 : decode cX3_reach 5 = .ok (.getfield 22, 3) := by decide +kernel
theorem dX3_reach_8 : decode cX3_reach 8 = .ok (.bipush 90, 2) := by decide +kernel
theorem dX3_reach_10 : decode cX3_reach 10 = .ok (.aload_n 0, 1) := by decide +kernel
theorem dX3_reach_11 : decode cX3_reach 11 = .ok (.getfield 15, 3) := by decide +kernel
theorem dX3_reach_14 : decode cX3_reach 14 = .ok (.getfield 35, 3) := by decide +kernel
theorem dX3_reach_17 : decode cX3_reach 17 = .ok (.isub, 1) := by decide +kernel
theorem dX3_reach_18 : decode cX3_reach 18 = .ok (.imul, 1) := by decide +kernel
theorem dX3_reach_19 : decode cX3_reach 19 = .ok (.bipush 90, 2) := by decide +kernel
theorem dX3_reach_21 : decode cX3_reach 21 = .ok (.idiv, 1) := by decide +kernel
theorem dX3_reach_22 : decode cX3_reach 22 = .ok (.iadd, 1) := by decide +kernel
theorem dX3_reach_23 : decode cX3_reach 23 = .ok (.ireturn, 1) := by decide +kernel
theorem dX3_spanStart_0 : decode cX3_spanStart 0 = .ok (.aload_n 0, 1) := by decide +kernel
theorem dX3_spanStart_1 : decode cX3_spanStart 1 = .ok (.getfield 19, 3) := by decide +kernel
theorem dX3_spanStart_4 : decode cX3_spanStart 4 = .ok (.aload_n 0, 1) := by decide +kernel
theorem dX3_spanStart_5 : decode cX3_spanStart 5 = .ok (.invokevirtual 46, 3) := by decide +kernel
theorem dX3_spanStart_8 : decode cX3_spanStart 8 = .ok (.invokestatic 40, 3) := by decide +kernel
theorem dX3_spanStart_11 : decode cX3_spanStart 11 = .ok (.ireturn, 1) := by decide +kernel
theorem dX3_spanEnd_0 : decode cX3_spanEnd 0 = .ok (.aload_n 0, 1) := by decide +kernel
theorem dX3_spanEnd_1 : decode cX3_spanEnd 1 = .ok (.getfield 19, 3) := by decide +kernel
theorem dX3_spanEnd_4 : decode cX3_spanEnd 4 = .ok (.aload_n 0, 1) := by decide +kernel
theorem dX3_spanEnd_5 : decode cX3_spanEnd 5 = .ok (.invokevirtual 46, 3) := by decide +kernel
theorem dX3_spanEnd_8 : decode cX3_spanEnd 8 = .ok (.invokestatic 50, 3) := by decide +kernel
theorem dX3_spanEnd_11 : decode cX3_spanEnd 11 = .ok (.ireturn, 1) := by decide +kernel
theorem dX3_sharesLineWith_0 : decode cX3_sharesLineWith 0 = .ok (.aload_n 0, 1) := by decide +kernel
theorem dX3_sharesLineWith_1 : decode cX3_sharesLineWith 1 = .ok (.getfield 25, 3) := by decide +kernel
theorem dX3_sharesLineWith_4 : decode cX3_sharesLineWith 4 = .ok (.aload_n 1, 1) := by decide +kernel
theorem dX3_sharesLineWith_5 : decode cX3_sharesLineWith 5 = .ok (.getfield 25, 3) := by decide +kernel
theorem dX3_sharesLineWith_8 : decode cX3_sharesLineWith 8 = .ok (.aload_n 1, 1) := by decide +kernel
theorem dX3_sharesLineWith_9 : decode cX3_sharesLineWith 9 = .ok (.getfield 28, 3) := by decide +kernel
theorem dX3_sharesLineWith_12 : decode cX3_sharesLineWith 12 = .ok (.iadd, 1) := by decide +kernel
theorem dX3_sharesLineWith_13 : decode cX3_sharesLineWith 13 = .ok (.if_icmp .ge 23, 3) := by decide +kernel
theorem dX3_sharesLineWith_16 : decode cX3_sharesLineWith 16 = .ok (.aload_n 1, 1) := by decide +kernel
theorem dX3_sharesLineWith_17 : decode cX3_sharesLineWith 17 = .ok (.getfield 25, 3) := by decide +kernel
theorem dX3_sharesLineWith_20 : decode cX3_sharesLineWith 20 = .ok (.aload_n 0, 1) := by decide +kernel
theorem dX3_sharesLineWith_21 : decode cX3_sharesLineWith 21 = .ok (.getfield 25, 3) := by decide +kernel
theorem dX3_sharesLineWith_24 : decode cX3_sharesLineWith 24 = .ok (.aload_n 0, 1) := by decide +kernel
theorem dX3_sharesLineWith_25 : decode cX3_sharesLineWith 25 = .ok (.getfield 28, 3) := by decide +kernel
theorem dX3_sharesLineWith_28 : decode cX3_sharesLineWith 28 = .ok (.iadd, 1) := by decide +kernel
theorem dX3_sharesLineWith_29 : decode cX3_sharesLineWith 29 = .ok (.if_icmp .ge 7, 3) := by decide +kernel
theorem dX3_sharesLineWith_32 : decode cX3_sharesLineWith 32 = .ok (.iconst 1, 1) := by decide +kernel
theorem dX3_sharesLineWith_33 : decode cX3_sharesLineWith 33 = .ok (.goto 4, 3) := by decide +kernel
theorem dX3_sharesLineWith_36 : decode cX3_sharesLineWith 36 = .ok (.iconst 0, 1) := by decide +kernel
theorem dX3_sharesLineWith_37 : decode cX3_sharesLineWith 37 = .ok (.ireturn, 1) := by decide +kernel
theorem dX3_meets_0 : decode cX3_meets 0 = .ok (.aload_n 0, 1) := by decide +kernel
theorem dX3_meets_1 : decode cX3_meets 1 = .ok (.aload_n 1, 1) := by decide +kernel
theorem dX3_meets_2 : decode cX3_meets 2 = .ok (.invokevirtual 53, 3) := by decide +kernel
theorem dX3_meets_5 : decode cX3_meets 5 = .ok (.ifCond .eq 59, 3) := by decide +kernel
theorem dX3_meets_8 : decode cX3_meets 8 = .ok (.aload_n 0, 1) := by decide +kernel
theorem dX3_meets_9 : decode cX3_meets 9 = .ok (.invokevirtual 57, 3) := by decide +kernel
theorem dX3_meets_12 : decode cX3_meets 12 = .ok (.aload_n 1, 1) := by decide +kernel
theorem dX3_meets_13 : decode cX3_meets 13 = .ok (.invokevirtual 60, 3) := by decide +kernel
theorem dX3_meets_16 : decode cX3_meets 16 = .ok (.if_icmp .gt 48, 3) := by decide +kernel
theorem dX3_meets_19 : decode cX3_meets 19 = .ok (.aload_n 1, 1) := by decide +kernel
theorem dX3_meets_20 : decode cX3_meets 20 = .ok (.invokevirtual 57, 3) := by decide +kernel
theorem dX3_meets_23 : decode cX3_meets 23 = .ok (.aload_n 0, 1) := by decide +kernel
theorem dX3_meets_24 : decode cX3_meets 24 = .ok (.invokevirtual 60, 3) := by decide +kernel
theorem dX3_meets_27 : decode cX3_meets 27 = .ok (.if_icmp .gt 37, 3) := by decide +kernel
theorem dX3_meets_30 : decode cX3_meets 30 = .ok (.aload_n 0, 1) := by decide +kernel
theorem dX3_meets_31 : decode cX3_meets 31 = .ok (.invokevirtual 63, 3) := by decide +kernel
theorem dX3_meets_34 : decode cX3_meets 34 = .ok (.ifCond .le 30, 3) := by decide +kernel
theorem dX3_meets_37 : decode cX3_meets 37 = .ok (.aload_n 1, 1) := by decide +kernel
theorem dX3_meets_38 : decode cX3_meets 38 = .ok (.invokevirtual 63, 3) := by decide +kernel
theorem dX3_meets_41 : decode cX3_meets 41 = .ok (.ifCond .le 23, 3) := by decide +kernel
theorem dX3_meets_44 : decode cX3_meets 44 = .ok (.aload_n 0, 1) := by decide +kernel
theorem dX3_meets_45 : decode cX3_meets 45 = .ok (.invokevirtual 63, 3) := by decide +kernel
theorem dX3_meets_48 : decode cX3_meets 48 = .ok (.aload_n 1, 1) := by decide +kernel
theorem dX3_meets_49 : decode cX3_meets 49 = .ok (.invokevirtual 63, 3) := by decide +kernel
theorem dX3_meets_52 : decode cX3_meets 52 = .ok (.isub, 1) := by decide +kernel
theorem dX3_meets_53 : decode cX3_meets 53 = .ok (.invokestatic 66, 3) := by decide +kernel
theorem dX3_meets_56 : decode cX3_meets 56 = .ok (.iconst 1, 1) := by decide +kernel
theorem dX3_meets_57 : decode cX3_meets 57 = .ok (.if_icmp .gt 7, 3) := by decide +kernel
theorem dX3_meets_60 : decode cX3_meets 60 = .ok (.iconst 1, 1) := by decide +kernel
theorem dX3_meets_61 : decode cX3_meets 61 = .ok (.goto 4, 3) := by decide +kernel
theorem dX3_meets_64 : decode cX3_meets 64 = .ok (.iconst 0, 1) := by decide +kernel
theorem dX3_meets_65 : decode cX3_meets 65 = .ok (.ireturn, 1) := by decide +kernel
theorem dX3_coversStartOf_0 : decode cX3_coversStartOf 0 = .ok (.aload_n 0, 1) := by decide +kernel
theorem dX3_coversStartOf_1 : decode cX3_coversStartOf 1 = .ok (.aload_n 1, 1) := by decide +kernel
theorem dX3_coversStartOf_2 : decode cX3_coversStartOf 2 = .ok (.invokevirtual 53, 3) := by decide +kernel
theorem dX3_coversStartOf_5 : decode cX3_coversStartOf 5 = .ok (.ifCond .eq 29, 3) := by decide +kernel
theorem dX3_coversStartOf_8 : decode cX3_coversStartOf 8 = .ok (.aload_n 0, 1) := by decide +kernel
theorem dX3_coversStartOf_9 : decode cX3_coversStartOf 9 = .ok (.invokevirtual 57, 3) := by decide +kernel
theorem dX3_coversStartOf_12 : decode cX3_coversStartOf 12 = .ok (.aload_n 1, 1) := by decide +kernel
theorem dX3_coversStartOf_13 : decode cX3_coversStartOf 13 = .ok (.getfield 19, 3) := by decide +kernel
theorem dX3_coversStartOf_16 : decode cX3_coversStartOf 16 = .ok (.if_icmp .gt 18, 3) := by decide +kernel
theorem dX3_coversStartOf_19 : decode cX3_coversStartOf 19 = .ok (.aload_n 1, 1) := by decide +kernel
theorem dX3_coversStartOf_20 : decode cX3_coversStartOf 20 = .ok (.getfield 19, 3) := by decide +kernel
theorem dX3_coversStartOf_23 : decode cX3_coversStartOf 23 = .ok (.aload_n 0, 1) := by decide +kernel
theorem dX3_coversStartOf_24 : decode cX3_coversStartOf 24 = .ok (.invokevirtual 60, 3) := by decide +kernel
theorem dX3_coversStartOf_27 : decode cX3_coversStartOf 27 = .ok (.if_icmp .gt 7, 3) := by decide +kernel
theorem dX3_coversStartOf_30 : decode cX3_coversStartOf 30 = .ok (.iconst 1, 1) := by decide +kernel
theorem dX3_coversStartOf_31 : decode cX3_coversStartOf 31 = .ok (.goto 4, 3) := by decide +kernel
theorem dX3_coversStartOf_34 : decode cX3_coversStartOf 34 = .ok (.iconst 0, 1) := by decide +kernel
theorem dX3_coversStartOf_35 : decode cX3_coversStartOf 35 = .ok (.ireturn, 1) := by decide +kernel
theorem dX3_pieceWidth_0 : decode cX3_pieceWidth 0 = .ok (.aload_n 0, 1) := by decide +kernel
theorem dX3_pieceWidth_1 : decode cX3_pieceWidth 1 = .ok (.getfield 31, 3) := by decide +kernel
theorem dX3_pieceWidth_4 : decode cX3_pieceWidth 4 = .ok (.ifCond .eq 10, 3) := by decide +kernel
theorem dX3_pieceWidth_7 : decode cX3_pieceWidth 7 = .ok (.aload_n 0, 1) := by decide +kernel
theorem dX3_pieceWidth_8 : decode cX3_pieceWidth 8 = .ok (.getfield 22, 3) := by decide +kernel
theorem dX3_pieceWidth_11 : decode cX3_pieceWidth 11 = .ok (.goto 7, 3) := by decide +kernel
theorem dX3_pieceWidth_14 : decode cX3_pieceWidth 14 = .ok (.aload_n 0, 1) := by decide +kernel
theorem dX3_pieceWidth_15 : decode cX3_pieceWidth 15 = .ok (.getfield 28, 3) := by decide +kernel
theorem dX3_pieceWidth_18 : decode cX3_pieceWidth 18 = .ok (.ireturn, 1) := by decide +kernel
theorem dX3_pieceHeight_0 : decode cX3_pieceHeight 0 = .ok (.aload_n 0, 1) := by decide +kernel
theorem dX3_pieceHeight_1 : decode cX3_pieceHeight 1 = .ok (.getfield 31, 3) := by decide +kernel
theorem dX3_pieceHeight_4 : decode cX3_pieceHeight 4 = .ok (.ifCond .eq 10, 3) := by decide +kernel
theorem dX3_pieceHeight_7 : decode cX3_pieceHeight 7 = .ok (.aload_n 0, 1) := by decide +kernel
theorem dX3_pieceHeight_8 : decode cX3_pieceHeight 8 = .ok (.getfield 28, 3) := by decide +kernel
theorem dX3_pieceHeight_11 : decode cX3_pieceHeight 11 = .ok (.goto 7, 3) := by decide +kernel
theorem dX3_pieceHeight_14 : decode cX3_pieceHeight 14 = .ok (.aload_n 0, 1) := by decide +kernel
theorem dX3_pieceHeight_15 : decode cX3_pieceHeight 15 = .ok (.getfield 22, 3) := by decide +kernel
theorem dX3_pieceHeight_18 : decode cX3_pieceHeight 18 = .ok (.ireturn, 1) := by decide +kernel
theorem dX4_init_0 : decode cX4_init 0 = .ok (.aload_n 0, 1) := by decide +kernel
theorem dX4_init_1 : decode cX4_init 1 = .ok (.invokespecial 1, 3) := by decide +kernel
theorem dX4_init_4 : decode cX4_init 4 = .ok (.aload_n 0, 1) := by decide +kernel
theorem dX4_init_5 : decode cX4_init 5 = .ok (.new 7, 3) := by decide +kernel
theorem dX4_init_8 : decode cX4_init 8 = .ok (.dup, 1) := by decide +kernel
theorem dX4_init_9 : decode cX4_init 9 = .ok (.invokespecial 9, 3) := by decide +kernel
theorem dX4_init_12 : decode cX4_init 12 = .ok (.putfield 10, 3) := by decide +kernel
theorem dX4_init_15 : decode cX4_init 15 = .ok (.aload_n 0, 1) := by decide +kernel
theorem dX4_init_16 : decode cX4_init 16 = .ok (.new 7, 3) := by decide +kernel
theorem dX4_init_19 : decode cX4_init 19 = .ok (.dup, 1) := by decide +kernel
theorem dX4_init_20 : decode cX4_init 20 = .ok (.invokespecial 9, 3) := by decide +kernel
theorem dX4_init_23 : decode cX4_init 23 = .ok (.putfield 16, 3) := by decide +kernel
theorem dX4_init_26 : decode cX4_init 26 = .ok (.aload_n 0, 1) := by decide +kernel
theorem dX4_init_27 : decode cX4_init 27 = .ok (.new 19, 3) := by decide +kernel
theorem dX4_init_30 : decode cX4_init 30 = .ok (.dup, 1) := by decide +kernel
theorem dX4_init_31 : decode cX4_init 31 = .ok (.invokespecial 21, 3) := by decide +kernel
theorem dX4_init_34 : decode cX4_init 34 = .ok (.putfield 22, 3) := by decide +kernel
theorem dX4_init_37 : decode cX4_init 37 = .ok (.aload_n 0, 1) := by decide +kernel
theorem dX4_init_38 : decode cX4_init 38 = .ok (.getfield 10, 3) := by decide +kernel
theorem dX4_init_41 : decode cX4_init 41 = .ok (.new 26, 3) := by decide +kernel
theorem dX4_init_44 : decode cX4_init 44 = .ok (.dup, 1) := by decide +kernel
theorem dX4_init_45 : decode cX4_init 45 = .ok (.iconst 0, 1) := by decide +kernel
theorem dX4_init_46 : decode cX4_init 46 = .ok (.aconst_null, 1) := by decide +kernel
theorem dX4_init_47 : decode cX4_init 47 = .ok (.iconst 0, 1) := by decide +kernel
theorem dX4_init_48 : decode cX4_init 48 = .ok (.iconst 0, 1) := by decide +kernel
theorem dX4_init_49 : decode cX4_init 49 = .ok (.invokespecial 28, 3) := by decide +kernel
theorem dX4_init_52 : decode cX4_init 52 = .ok (.invokevirtual 31, 3) := by decide +kernel
theorem dX4_init_55 : decode cX4_init 55 = .ok (.pop, 1) := by decide +kernel
theorem dX4_init_56 : decode cX4_init 56 = .ok (.return_, 1) := by decide +kernel
theorem dX4_fold_0 : decode cX4_fold 0 = .ok (.aload_n 0, 1) := by decide +kernel
theorem dX4_fold_1 : decode cX4_fold 1 = .ok (.iload_n 1, 1) := by decide +kernel
theorem dX4_fold_2 : decode cX4_fold 2 = .ok (.invokevirtual 35, 3) := by decide +kernel
theorem dX4_fold_5 : decode cX4_fold 5 = .ok (.iload_n 2, 1) := by decide +kernel
theorem dX4_fold_6 : decode cX4_fold 6 = .ok (.iconst 1, 1) := by decide +kernel
theorem dX4_fold_7 : decode cX4_fold 7 = .ok (.bipush 8, 2) := by decide +kernel
theorem dX4_fold_9 : decode cX4_fold 9 = .ok (.invokestatic 39, 3) := by decide +kernel
theorem dX4_fold_12 : decode cX4_fold 12 = .ok (.ifCond .ne 14, 3) := by decide +kernel
theorem dX4_fold_15 : decode cX4_fold 15 = .ok (.iload_n 3, 1) := by decide +kernel
theorem dX4_fold_16 : decode cX4_fold 16 = .ok (.bipush (-90), 2) := by decide +kernel
theorem dX4_fold_18 : decode cX4_fold 18 = .ok (.bipush 90, 2) := by decide +kernel
theorem dX4_fold_20 : decode cX4_fold 20 = .ok (.invokestatic 39, 3) := by decide +kernel
theorem dX4_fold_23 : decode cX4_fold 23 = .ok (.ifCond .eq 13, 3) := by decide +kernel
theorem dX4_fold_26 : decode cX4_fold 26 = .ok (.new 43, 3) := by decide +kernel
theorem dX4_fold_29 : decode cX4_fold 29 = .ok (.dup, 1) := by decide +kernel
theorem dX4_fold_30 : decode cX4_fold 30 = .ok (.ldc 45, 2) := by decide +kernel
theorem dX4_fold_32 : decode cX4_fold 32 = .ok (.invokespecial 47, 3) := by decide +kernel
theorem dX4_fold_35 : decode cX4_fold 35 = .ok (.athrow, 1) := by decide +kernel
theorem dX4_fold_36 : decode cX4_fold 36 = .ok (.aload_n 0, 1) := by decide +kernel
theorem dX4_fold_37 : decode cX4_fold 37 = .ok (.getfield 10, 3) := by decide +kernel
theorem dX4_fold_40 : decode cX4_fold 40 = .ok (.invokevirtual 50, 3) := by decide +kernel
theorem dX4_fold_43 : decode cX4_fold 43 = .ok (.bipush 12, 2) := by decide +kernel
theorem dX4_fold_45 : decode cX4_fold 45 = .ok (.if_icmp .ge 10, 3) := by decide +kernel
theorem dX4_fold_48 : decode cX4_fold 48 = .ok (.aload_n 0, 1) := by decide +kernel
theorem dX4_fold_49 : decode cX4_fold 49 = .ok (.invokevirtual 54, 3) := by decide +kernel
theorem dX4_fold_52 : decode cX4_fold 52 = .ok (.ifCond .eq 13, 3) := by decide +kernel
theorem dX4_fold_55 : decode cX4_fold 55 = .ok (.new 58, 3) := by decide +kernel
theorem dX4_fold_58 : decode cX4_fold 58 = .ok (.dup, 1) := by decide +kernel
theorem dX4_fold_59 : decode cX4_fold 59 = .ok (.ldc 60, 2) := by decide +kernel
theorem dX4_fold_61 : decode cX4_fold 61 = .ok (.invokespecial 62, 3) := by decide +kernel
theorem dX4_fold_64 : decode cX4_fold 64 = .ok (.athrow, 1) := by decide +kernel
theorem dX4_fold_65 : decode cX4_fold 65 = .ok (.aload_n 0, 1) := by decide +kernel
theorem dX4_fold_66 : decode cX4_fold 66 = .ok (.getfield 10, 3) := by decide +kernel
theorem dX4_fold_69 : decode cX4_fold 69 = .ok (.new 26, 3) := by decide +kernel
theorem dX4_fold_72 : decode cX4_fold 72 = .ok (.dup, 1) := by decide +kernel
theorem dX4_fold_73 : decode cX4_fold 73 = .ok (.aload_n 0, 1) := by decide +kernel
theorem dX4_fold_74 : decode cX4_fold 74 = .ok (.getfield 10, 3) := by decide +kernel
theorem dX4_fold_77 : decode cX4_fold 77 = .ok (.invokevirtual 50, 3) := by decide +kernel
theorem dX4_fold_80 : decode cX4_fold 80 = .ok (.aload_n 0, 1) := by decide +kernel
theorem dX4_fold_81 : decode cX4_fold 81 = .ok (.getfield 10, 3) := by decide +kernel
theorem dX4_fold_84 : decode cX4_fold 84 = .ok (.iload_n 1, 1) := by decide +kernel
theorem dX4_fold_85 : decode cX4_fold 85 = .ok (.invokevirtual 63, 3) := by decide +kernel
theorem dX4_fold_88 : decode cX4_fold 88 = .ok (.checkcast 26, 3) := by decide +kernel
theorem dX4_fold_91 : decode cX4_fold 91 = .ok (.iload_n 2, 1) := by decide +kernel
theorem dX4_fold_92 : decode cX4_fold 92 = .ok (.iload_n 3, 1) := by decide +kernel
theorem dX4_fold_93 : decode cX4_fold 93 = .ok (.invokespecial 28, 3) := by decide +kernel
theorem dX4_fold_96 : decode cX4_fold 96 = .ok (.invokevirtual 31, 3) := by decide +kernel
theorem dX4_fold_99 : decode cX4_fold 99 = .ok (.pop, 1) := by decide +kernel
theorem dX4_fold_100 : decode cX4_fold 100 = .ok (.aload_n 0, 1) := by decide +kernel
theorem dX4_fold_101 : decode cX4_fold 101 = .ok (.getfield 10, 3) := by decide +kernel
theorem dX4_fold_104 : decode cX4_fold 104 = .ok (.invokevirtual 50, 3) := by decide +kernel
theorem dX4_fold_107 : decode cX4_fold 107 = .ok (.iconst 1, 1) := by decide +kernel
theorem dX4_fold_108 : decode cX4_fold 108 = .ok (.isub, 1) := by decide +kernel
theorem dX4_fold_109 : decode cX4_fold 109 = .ok (.ireturn, 1) := by decide +kernel
theorem dX4_part_0 : decode cX4_part 0 = .ok (.aload_n 0, 1) := by decide +kernel
theorem dX4_part_1 : decode cX4_part 1 = .ok (.iload_n 1, 1) := by decide +kernel
theorem dX4_part_2 : decode cX4_part 2 = .ok (.invokevirtual 35, 3) := by decide +kernel
theorem dX4_part_5 : decode cX4_part 5 = .ok (.iload_n 2, 1) := by decide +kernel
theorem dX4_part_6 : decode cX4_part 6 = .ok (.iconst 0, 1) := by decide +kernel
theorem dX4_part_7 : decode cX4_part 7 = .ok (.bipush 60, 2) := by decide +kernel
theorem dX4_part_9 : decode cX4_part 9 = .ok (.invokestatic 39, 3) := by decide +kernel
theorem dX4_part_12 : decode cX4_part 12 = .ok (.ifCond .ne 25, 3) := by decide +kernel
theorem dX4_part_15 : decode cX4_part 15 = .ok (.iload 4, 2) := by decide +kernel
theorem dX4_part_17 : decode cX4_part 17 = .ok (.iconst 0, 1) := by decide +kernel
theorem dX4_part_18 : decode cX4_part 18 = .ok (.bipush 20, 2) := by decide +kernel
theorem dX4_part_20 : decode cX4_part 20 = .ok (.invokestatic 39, 3) := by decide +kernel
theorem dX4_part_23 : decode cX4_part 23 = .ok (.ifCond .ne 14, 3) := by decide +kernel
theorem dX4_part_26 : decode cX4_part 26 = .ok (.iload 5, 2) := by decide +kernel
theorem dX4_part_28 : decode cX4_part 28 = .ok (.iconst 1, 1) := by decide +kernel
theorem dX4_part_29 : decode cX4_part 29 = .ok (.bipush 10, 2) := by decide +kernel
theorem dX4_part_31 : decode cX4_part 31 = .ok (.invokestatic 39, 3) := by decide +kernel
theorem dX4_part_34 : decode cX4_part 34 = .ok (.ifCond .eq 13, 3) := by decide +kernel
theorem dX4_part_37 : decode cX4_part 37 = .ok (.new 43, 3) := by decide +kernel
theorem dX4_part_40 : decode cX4_part 40 = .ok (.dup, 1) := by decide +kernel
theorem dX4_part_41 : decode cX4_part 41 = .ok (.ldc 67, 2) := by decide +kernel
theorem dX4_part_43 : decode cX4_part 43 = .ok (.invokespecial 47, 3) := by decide +kernel
theorem dX4_part_46 : decode cX4_part 46 = .ok (.athrow, 1) := by decide +kernel
theorem dX4_part_47 : decode cX4_part 47 = .ok (.iload_n 3, 1) := by decide +kernel
theorem dX4_part_48 : decode cX4_part 48 = .ok (.invokestatic 69, 3) := by decide +kernel
theorem dX4_part_51 : decode cX4_part 51 = .ok (.aload_n 0, 1) := by decide +kernel
theorem dX4_part_52 : decode cX4_part 52 = .ok (.getfield 16, 3) := by decide +kernel
theorem dX4_part_55 : decode cX4_part 55 = .ok (.invokevirtual 50, 3) := by decide +kernel
theorem dX4_part_58 : decode cX4_part 58 = .ok (.bipush 16, 2) := by decide +kernel
theorem dX4_part_60 : decode cX4_part 60 = .ok (.if_icmp .ge 10, 3) := by decide +kernel
theorem dX4_part_63 : decode cX4_part 63 = .ok (.aload_n 0, 1) := by decide +kernel
theorem dX4_part_64 : decode cX4_part 64 = .ok (.invokevirtual 54, 3) := by decide +kernel
theorem dX4_part_67 : decode cX4_part 67 = .ok (.ifCond .eq 13, 3) := by decide +kernel
theorem dX4_part_70 : decode cX4_part 70 = .ok (.new 58, 3) := by decide +kernel
theorem dX4_part_73 : decode cX4_part 73 = .ok (.dup, 1) := by decide +kernel
theorem dX4_part_74 : decode cX4_part 74 = .ok (.ldc 72, 2) := by decide +kernel
theorem dX4_part_76 : decode cX4_part 76 = .ok (.invokespecial 62, 3) := by decide +kernel
theorem dX4_part_79 : decode cX4_part 79 = .ok (.athrow, 1) := by decide +kernel
theorem dX4_part_80 : decode cX4_part 80 = .ok (.aload_n 0, 1) := by decide +kernel
theorem dX4_part_81 : decode cX4_part 81 = .ok (.getfield 16, 3) := by decide +kernel
theorem dX4_part_84 : decode cX4_part 84 = .ok (.new 74, 3) := by decide +kernel
theorem dX4_part_87 : decode cX4_part 87 = .ok (.dup, 1) := by decide +kernel
theorem dX4_part_88 : decode cX4_part 88 = .ok (.aload_n 0, 1) := by decide +kernel
theorem dX4_part_89 : decode cX4_part 89 = .ok (.getfield 10, 3) := by decide +kernel
theorem dX4_part_92 : decode cX4_part 92 = .ok (.iload_n 1, 1) := by decide +kernel
theorem dX4_part_93 : decode cX4_part 93 = .ok (.invokevirtual 63, 3) := by decide +kernel
theorem dX4_part_96 : decode cX4_part 96 = .ok (.checkcast 26, 3) := by decide +kernel
theorem dX4_part_99 : decode cX4_part 99 = .ok (.iload_n 2, 1) := by decide +kernel
theorem dX4_part_100 : decode cX4_part 100 = .ok (.iload_n 3, 1) := by decide +kernel
theorem dX4_part_101 : decode cX4_part 101 = .ok (.iload 4, 2) := by decide +kernel
theorem dX4_part_103 : decode cX4_part 103 = .ok (.iload 5, 2) := by decide +kernel
theorem dX4_part_105 : decode cX4_part 105 = .ok (.iload 6, 2) := by decide +kernel
theorem dX4_part_107 : decode cX4_part 107 = .ok (.invokespecial 76, 3) := by decide +kernel
theorem dX4_part_110 : decode cX4_part 110 = .ok (.invokevirtual 31, 3) := by decide +kernel
theorem dX4_part_113 : decode cX4_part 113 = .ok (.pop, 1) := by decide +kernel
theorem dX4_part_114 : decode cX4_part 114 = .ok (.aload_n 0, 1) := by decide +kernel
theorem dX4_part_115 : decode cX4_part 115 = .ok (.getfield 16, 3) := by decide +kernel
theorem dX4_part_118 : decode cX4_part 118 = .ok (.invokevirtual 50, 3) := by decide +kernel
theorem dX4_part_121 : decode cX4_part 121 = .ok (.iconst 1, 1) := by decide +kernel
theorem dX4_part_122 : decode cX4_part 122 = .ok (.isub, 1) := by decide +kernel
theorem dX4_part_123 : decode cX4_part 123 = .ok (.ireturn, 1) := by decide +kernel
theorem dX4_angle_0 : decode cX4_angle 0 = .ok (.aload_n 0, 1) := by decide +kernel
theorem dX4_angle_1 : decode cX4_angle 1 = .ok (.iload_n 1, 1) := by decide +kernel
theorem dX4_angle_2 : decode cX4_angle 2 = .ok (.invokevirtual 35, 3) := by decide +kernel
theorem dX4_angle_5 : decode cX4_angle 5 = .ok (.iload_n 2, 1) := by decide +kernel
theorem dX4_angle_6 : decode cX4_angle 6 = .ok (.invokestatic 79, 3) := by decide +kernel
theorem dX4_angle_9 : decode cX4_angle 9 = .ok (.aload_n 0, 1) := by decide +kernel
theorem dX4_angle_10 : decode cX4_angle 10 = .ok (.iload_n 2, 1) := by decide +kernel
theorem dX4_angle_11 : decode cX4_angle 11 = .ok (.invokevirtual 82, 3) := by decide +kernel
theorem dX4_angle_14 : decode cX4_angle 14 = .ok (.aload_n 0, 1) := by decide +kernel
theorem dX4_angle_15 : decode cX4_angle 15 = .ok (.getfield 10, 3) := by decide +kernel
theorem dX4_angle_18 : decode cX4_angle 18 = .ok (.iload_n 1, 1) := by decide +kernel
theorem dX4_angle_19 : decode cX4_angle 19 = .ok (.invokevirtual 63, 3) := by decide +kernel
theorem dX4_angle_22 : decode cX4_angle 22 = .ok (.checkcast 26, 3) := by decide +kernel
theorem dX4_angle_25 : decode cX4_angle 25 = .ok (.getfield 85, 3) := by decide +kernel
theorem dX4_angle_28 : decode cX4_angle 28 = .ok (.ireturn, 1) := by decide +kernel
theorem dX4_angleAnew_0 : decode cX4_angleAnew 0 = .ok (.aload_n 0, 1) := by decide +kernel
theorem dX4_angleAnew_1 : decode cX4_angleAnew 1 = .ok (.iload_n 1, 1) := by decide +kernel
theorem dX4_angleAnew_2 : decode cX4_angleAnew 2 = .ok (.invokevirtual 35, 3) := by decide +kernel
theorem dX4_angleAnew_5 : decode cX4_angleAnew 5 = .ok (.iload_n 2, 1) := by decide +kernel
theorem dX4_angleAnew_6 : decode cX4_angleAnew 6 = .ok (.invokestatic 79, 3) := by decide +kernel
theorem dX4_angleAnew_9 : decode cX4_angleAnew 9 = .ok (.aload_n 0, 1) := by decide +kernel
theorem dX4_angleAnew_10 : decode cX4_angleAnew 10 = .ok (.iload_n 2, 1) := by decide +kernel
theorem dX4_angleAnew_11 : decode cX4_angleAnew 11 = .ok (.invokevirtual 89, 3) := by decide +kernel
theorem dX4_angleAnew_14 : decode cX4_angleAnew 14 = .ok (.aload_n 0, 1) := by decide +kernel
theorem dX4_angleAnew_15 : decode cX4_angleAnew 15 = .ok (.getfield 10, 3) := by decide +kernel
theorem dX4_angleAnew_18 : decode cX4_angleAnew 18 = .ok (.iload_n 1, 1) := by decide +kernel
theorem dX4_angleAnew_19 : decode cX4_angleAnew 19 = .ok (.invokevirtual 63, 3) := by decide +kernel
theorem dX4_angleAnew_22 : decode cX4_angleAnew 22 = .ok (.checkcast 26, 3) := by decide +kernel
theorem dX4_angleAnew_25 : decode cX4_angleAnew 25 = .ok (.getfield 85, 3) := by decide +kernel
theorem dX4_angleAnew_28 : decode cX4_angleAnew 28 = .ok (.ireturn, 1) := by decide +kernel
theorem dX4_where_0 : decode cX4_where 0 = .ok (.aload_n 0, 1) := by decide +kernel
theorem dX4_where_1 : decode cX4_where 1 = .ok (.iload_n 1, 1) := by decide +kernel
theorem dX4_where_2 : decode cX4_where 2 = .ok (.invokevirtual 92, 3) := by decide +kernel
theorem dX4_where_5 : decode cX4_where 5 = .ok (.iload_n 2, 1) := by decide +kernel
theorem dX4_where_6 : decode cX4_where 6 = .ok (.invokestatic 79, 3) := by decide +kernel
theorem dX4_where_9 : decode cX4_where 9 = .ok (.iload_n 3, 1) := by decide +kernel
theorem dX4_where_10 : decode cX4_where 10 = .ok (.invokestatic 95, 3) := by decide +kernel
theorem dX4_where_13 : decode cX4_where 13 = .ok (.aload_n 0, 1) := by decide +kernel
theorem dX4_where_14 : decode cX4_where 14 = .ok (.iload_n 2, 1) := by decide +kernel
theorem dX4_where_15 : decode cX4_where 15 = .ok (.invokevirtual 82, 3) := by decide +kernel
theorem dX4_where_18 : decode cX4_where 18 = .ok (.aload_n 0, 1) := by decide +kernel
theorem dX4_where_19 : decode cX4_where 19 = .ok (.getfield 16, 3) := by decide +kernel
theorem dX4_where_22 : decode cX4_where 22 = .ok (.iload_n 1, 1) := by decide +kernel
theorem dX4_where_23 : decode cX4_where 23 = .ok (.invokevirtual 63, 3) := by decide +kernel
theorem dX4_where_26 : decode cX4_where 26 = .ok (.checkcast 74, 3) := by decide +kernel
theorem dX4_where_29 : decode cX4_where 29 = .ok (.astore 4, 2) := by decide +kernel
theorem dX4_where_31 : decode cX4_where 31 = .ok (.iload_n 3, 1) := by decide +kernel
theorem dX4_where_32 : decode cX4_where 32 = .ok (.ifCond .ne 9, 3) := by decide +kernel
theorem dX4_where_35 : decode cX4_where 35 = .ok (.aload 4, 2) := by decide +kernel
theorem dX4_where_37 : decode cX4_where 37 = .ok (.invokevirtual 98, 3) := by decide +kernel
theorem dX4_where_40 : decode cX4_where 40 = .ok (.ireturn, 1) := by decide +kernel
theorem dX4_where_41 : decode cX4_where 41 = .ok (.iload_n 3, 1) := by decide +kernel
theorem dX4_where_42 : decode cX4_where 42 = .ok (.iconst 1, 1) := by decide +kernel
theorem dX4_where_43 : decode cX4_where 43 = .ok (.if_icmp .ne 11, 3) := by decide +kernel
theorem dX4_where_46 : decode cX4_where 46 = .ok (.aload 4, 2) := by decide +kernel
theorem dX4_where_48 : decode cX4_where 48 = .ok (.invokevirtual 101, 3) := by decide +kernel
theorem dX4_where_51 : decode cX4_where 51 = .ok (.goto 8, 3) := by decide +kernel
theorem dX4_where_54 : decode cX4_where 54 = .ok (.aload 4, 2) := by decide +kernel
theorem dX4_where_56 : decode cX4_where 56 = .ok (.invokevirtual 104, 3) := by decide +kernel
theorem dX4_where_59 : decode cX4_where 59 = .ok (.ireturn, 1) := by decide +kernel
theorem dX4_meet_0 : decode cX4_meet 0 = .ok (.aload_n 0, 1) := by decide +kernel
theorem dX4_meet_1 : decode cX4_meet 1 = .ok (.iload_n 1, 1) := by decide +kernel
theorem dX4_meet_2 : decode cX4_meet 2 = .ok (.invokevirtual 92, 3) := by decide +kernel
theorem dX4_meet_5 : decode cX4_meet 5 = .ok (.aload_n 0, 1) := by decide +kernel
theorem dX4_meet_6 : decode cX4_meet 6 = .ok (.iload_n 2, 1) := by decide +kernel
theorem dX4_meet_7 : decode cX4_meet 7 = .ok (.invokevirtual 92, 3) := by decide +kernel
theorem dX4_meet_10 : decode cX4_meet 10 = .ok (.iload_n 3, 1) := by decide +kernel
theorem dX4_meet_11 : decode cX4_meet 11 = .ok (.invokestatic 79, 3) := by decide +kernel
theorem dX4_meet_14 : decode cX4_meet 14 = .ok (.aload_n 0, 1) := by decide +kernel
theorem dX4_meet_15 : decode cX4_meet 15 = .ok (.iload_n 3, 1) := by decide +kernel
theorem dX4_meet_16 : decode cX4_meet 16 = .ok (.invokevirtual 82, 3) := by decide +kernel
theorem dX4_meet_19 : decode cX4_meet 19 = .ok (.iload_n 1, 1) := by decide +kernel
theorem dX4_meet_20 : decode cX4_meet 20 = .ok (.iload_n 2, 1) := by decide +kernel
theorem dX4_meet_21 : decode cX4_meet 21 = .ok (.if_icmp .eq 35, 3) := by decide +kernel
theorem dX4_meet_24 : decode cX4_meet 24 = .ok (.aload_n 0, 1) := by decide +kernel
theorem dX4_meet_25 : decode cX4_meet 25 = .ok (.getfield 16, 3) := by decide +kernel
theorem dX4_meet_28 : decode cX4_meet 28 = .ok (.iload_n 1, 1) := by decide +kernel
theorem dX4_meet_29 : decode cX4_meet 29 = .ok (.invokevirtual 63, 3) := by decide +kernel
theorem dX4_meet_32 : decode cX4_meet 32 = .ok (.checkcast 74, 3) := by decide +kernel
theorem dX4_meet_35 : decode cX4_meet 35 = .ok (.aload_n 0, 1) := by decide +kernel
theorem dX4_meet_36 : decode cX4_meet 36 = .ok (.getfield 16, 3) := by decide +kernel
theorem dX4_meet_39 : decode cX4_meet 39 = .ok (.iload_n 2, 1) := by decide +kernel
theorem dX4_meet_40 : decode cX4_meet 40 = .ok (.invokevirtual 63, 3) := by decide +kernel
theorem dX4_meet_43 : decode cX4_meet 43 = .ok (.checkcast 74, 3) := by decide +kernel
theorem dX4_meet_46 : decode cX4_meet 46 = .ok (.invokevirtual 107, 3) := by decide +kernel
theorem dX4_meet_49 : decode cX4_meet 49 = .ok (.ifCond .eq 7, 3) := by decide +kernel
theorem dX4_meet_52 : decode cX4_meet 52 = .ok (.iconst 1, 1) := by decide +kernel
theorem dX4_meet_53 : decode cX4_meet 53 = .ok (.goto 4, 3) := by decide +kernel
theorem dX4_meet_56 : decode cX4_meet 56 = .ok (.iconst 0, 1) := by decide +kernel
theorem dX4_meet_57 : decode cX4_meet 57 = .ok (.ireturn, 1) := by decide +kernel
theorem dX4_test_0 : decode cX4_test 0 = .ok (.iconst 0, 1) := by decide +kernel
theorem dX4_test_1 : decode cX4_test 1 = .ok (.istore_n 1, 1) := by decide +kernel
theorem dX4_test_2 : decode cX4_test 2 = .ok (.iload_n 1, 1) := by decide +kernel
theorem dX4_test_3 : decode cX4_test 3 = .ok (.sipush 180, 3) := by decide +kernel
theorem dX4_test_6 : decode cX4_test 6 = .ok (.if_icmp .gt 32, 3) := by decide +kernel
theorem dX4_test_9 : decode cX4_test 9 = .ok (.aload_n 0, 1) := by decide +kernel
theorem dX4_test_10 : decode cX4_test 10 = .ok (.iload_n 1, 1) := by decide +kernel
theorem dX4_test_11 : decode cX4_test 11 = .ok (.invokevirtual 82, 3) := by decide +kernel
theorem dX4_test_14 : decode cX4_test 14 = .ok (.aload_n 0, 1) := by decide +kernel
theorem dX4_test_15 : decode cX4_test 15 = .ok (.invokevirtual 111, 3) := by decide +kernel
theorem dX4_test_18 : decode cX4_test 18 = .ok (.istore_n 2, 1) := by decide +kernel
theorem dX4_test_19 : decode cX4_test 19 = .ok (.iload_n 2, 1) := by decide +kernel
theorem dX4_test_20 : decode cX4_test 20 = .ok (.iconst (-1), 1) := by decide +kernel
theorem dX4_test_21 : decode cX4_test 21 = .ok (.if_icmp .eq 11, 3) := by decide +kernel
theorem dX4_test_24 : decode cX4_test 24 = .ok (.sipush 1000, 3) := by decide +kernel
theorem dX4_test_27 : decode cX4_test 27 = .ok (.iload_n 2, 1) := by decide +kernel
theorem dX4_test_28 : decode cX4_test 28 = .ok (.imul, 1) := by decide +kernel
theorem dX4_test_29 : decode cX4_test 29 = .ok (.iload_n 1, 1) := by decide +kernel
theorem dX4_test_30 : decode cX4_test 30 = .ok (.iadd, 1) := by decide +kernel
theorem dX4_test_31 : decode cX4_test 31 = .ok (.ireturn, 1) := by decide +kernel
theorem dX4_test_32 : decode cX4_test 32 = .ok (.iinc 1 15, 3) := by decide +kernel
theorem dX4_test_35 : decode cX4_test 35 = .ok (.goto (-33), 3) := by decide +kernel
theorem dX4_test_38 : decode cX4_test 38 = .ok (.iconst (-1), 1) := by decide +kernel
theorem dX4_test_39 : decode cX4_test 39 = .ok (.ireturn, 1) := by decide +kernel
theorem dX4_sheets_0 : decode cX4_sheets 0 = .ok (.aload_n 0, 1) := by decide +kernel
theorem dX4_sheets_1 : decode cX4_sheets 1 = .ok (.invokevirtual 114, 3) := by decide +kernel
theorem dX4_sheets_4 : decode cX4_sheets 4 = .ok (.aload_n 0, 1) := by decide +kernel
theorem dX4_sheets_5 : decode cX4_sheets 5 = .ok (.getfield 117, 3) := by decide +kernel
theorem dX4_sheets_8 : decode cX4_sheets 8 = .ok (.ireturn, 1) := by decide +kernel
theorem dX4_laid_0 : decode cX4_laid 0 = .ok (.aload_n 0, 1) := by decide +kernel
theorem dX4_laid_1 : decode cX4_laid 1 = .ok (.iload_n 1, 1) := by decide +kernel
theorem dX4_laid_2 : decode cX4_laid 2 = .ok (.invokevirtual 92, 3) := by decide +kernel
theorem dX4_laid_5 : decode cX4_laid 5 = .ok (.iload_n 2, 1) := by decide +kernel
theorem dX4_laid_6 : decode cX4_laid 6 = .ok (.invokestatic 95, 3) := by decide +kernel
theorem dX4_laid_9 : decode cX4_laid 9 = .ok (.aload_n 0, 1) := by decide +kernel
theorem dX4_laid_10 : decode cX4_laid 10 = .ok (.invokevirtual 114, 3) := by decide +kernel
theorem dX4_laid_13 : decode cX4_laid 13 = .ok (.aload_n 0, 1) := by decide +kernel
theorem dX4_laid_14 : decode cX4_laid 14 = .ok (.getfield 16, 3) := by decide +kernel
theorem dX4_laid_17 : decode cX4_laid 17 = .ok (.iload_n 1, 1) := by decide +kernel
theorem dX4_laid_18 : decode cX4_laid 18 = .ok (.invokevirtual 63, 3) := by decide +kernel
theorem dX4_laid_21 : decode cX4_laid 21 = .ok (.checkcast 74, 3) := by decide +kernel
theorem dX4_laid_24 : decode cX4_laid 24 = .ok (.astore_n 3, 1) := by decide +kernel
theorem dX4_laid_25 : decode cX4_laid 25 = .ok (.iload_n 2, 1) := by decide +kernel
theorem dX4_laid_26 : decode cX4_laid 26 = .ok (.ifCond .ne 8, 3) := by decide +kernel
theorem dX4_laid_29 : decode cX4_laid 29 = .ok (.aload_n 3, 1) := by decide +kernel
theorem dX4_laid_30 : decode cX4_laid 30 = .ok (.getfield 120, 3) := by decide +kernel
theorem dX4_laid_33 : decode cX4_laid 33 = .ok (.ireturn, 1) := by decide +kernel
theorem dX4_laid_34 : decode cX4_laid 34 = .ok (.iload_n 2, 1) := by decide +kernel
theorem dX4_laid_35 : decode cX4_laid 35 = .ok (.iconst 1, 1) := by decide +kernel
theorem dX4_laid_36 : decode cX4_laid 36 = .ok (.if_icmp .ne 10, 3) := by decide +kernel
theorem dX4_laid_39 : decode cX4_laid 39 = .ok (.aload_n 3, 1) := by decide +kernel
theorem dX4_laid_40 : decode cX4_laid 40 = .ok (.getfield 123, 3) := by decide +kernel
theorem dX4_laid_43 : decode cX4_laid 43 = .ok (.goto 7, 3) := by decide +kernel
theorem dX4_laid_46 : decode cX4_laid 46 = .ok (.aload_n 3, 1) := by decide +kernel
theorem dX4_laid_47 : decode cX4_laid 47 = .ok (.getfield 126, 3) := by decide +kernel
theorem dX4_laid_50 : decode cX4_laid 50 = .ok (.ireturn, 1) := by decide +kernel
theorem dX4_glue_0 : decode cX4_glue 0 = .ok (.aload_n 0, 1) := by decide +kernel
theorem dX4_glue_1 : decode cX4_glue 1 = .ok (.iload_n 1, 1) := by decide +kernel
theorem dX4_glue_2 : decode cX4_glue 2 = .ok (.invokevirtual 92, 3) := by decide +kernel
theorem dX4_glue_5 : decode cX4_glue 5 = .ok (.aload_n 0, 1) := by decide +kernel
theorem dX4_glue_6 : decode cX4_glue 6 = .ok (.getfield 16, 3) := by decide +kernel
theorem dX4_glue_9 : decode cX4_glue 9 = .ok (.iload_n 1, 1) := by decide +kernel
theorem dX4_glue_10 : decode cX4_glue 10 = .ok (.invokevirtual 63, 3) := by decide +kernel
theorem dX4_glue_13 : decode cX4_glue 13 = .ok (.checkcast 74, 3) := by decide +kernel
theorem dX4_glue_16 : decode cX4_glue 16 = .ok (.astore_n 2, 1) := by decide +kernel
theorem dX4_glue_17 : decode cX4_glue 17 = .ok (.aload_n 2, 1) := by decide +kernel
theorem dX4_glue_18 : decode cX4_glue 18 = .ok (.invokevirtual 129, 3) := by decide +kernel
theorem dX4_glue_21 : decode cX4_glue 21 = .ok (.ifCond .eq 13, 3) := by decide +kernel
theorem dX4_glue_24 : decode cX4_glue 24 = .ok (.new 58, 3) := by decide +kernel
theorem dX4_glue_27 : decode cX4_glue 27 = .ok (.dup, 1) := by decide +kernel
theorem dX4_glue_28 : decode cX4_glue 28 = .ok (.ldc 132, 2) := by decide +kernel
theorem dX4_glue_30 : decode cX4_glue 30 = .ok (.invokespecial 62, 3) := by decide +kernel
theorem dX4_glue_33 : decode cX4_glue 33 = .ok (.athrow, 1) := by decide +kernel
theorem dX4_glue_34 : decode cX4_glue 34 = .ok (.aload_n 0, 1) := by decide +kernel
theorem dX4_glue_35 : decode cX4_glue 35 = .ok (.aload_n 2, 1) := by decide +kernel
theorem dX4_glue_36 : decode cX4_glue 36 = .ok (.invokevirtual 134, 3) := by decide +kernel
theorem dX4_glue_39 : decode cX4_glue 39 = .ok (.ifCond .ne 11, 3) := by decide +kernel
theorem dX4_glue_42 : decode cX4_glue 42 = .ok (.aload_n 0, 1) := by decide +kernel
theorem dX4_glue_43 : decode cX4_glue 43 = .ok (.aload_n 2, 1) := by decide +kernel
theorem dX4_glue_44 : decode cX4_glue 44 = .ok (.invokevirtual 137, 3) := by decide +kernel
theorem dX4_glue_47 : decode cX4_glue 47 = .ok (.ifCond .ne 13, 3) := by decide +kernel
theorem dX4_glue_50 : decode cX4_glue 50 = .ok (.new 58, 3) := by decide +kernel
theorem dX4_glue_53 : decode cX4_glue 53 = .ok (.dup, 1) := by decide +kernel
theorem dX4_glue_54 : decode cX4_glue 54 = .ok (.ldc 140, 2) := by decide +kernel
theorem dX4_glue_56 : decode cX4_glue 56 = .ok (.invokespecial 62, 3) := by decide +kernel
theorem dX4_glue_59 : decode cX4_glue 59 = .ok (.athrow, 1) := by decide +kernel
theorem dX4_glue_60 : decode cX4_glue 60 = .ok (.aload_n 2, 1) := by decide +kernel
theorem dX4_glue_61 : decode cX4_glue 61 = .ok (.aload_n 0, 1) := by decide +kernel
theorem dX4_glue_62 : decode cX4_glue 62 = .ok (.getfield 142, 3) := by decide +kernel
theorem dX4_glue_65 : decode cX4_glue 65 = .ok (.putfield 145, 3) := by decide +kernel
theorem dX4_glue_68 : decode cX4_glue 68 = .ok (.aload_n 0, 1) := by decide +kernel
theorem dX4_glue_69 : decode cX4_glue 69 = .ok (.dup, 1) := by decide +kernel
theorem dX4_glue_70 : decode cX4_glue 70 = .ok (.getfield 142, 3) := by decide +kernel
theorem dX4_glue_73 : decode cX4_glue 73 = .ok (.iconst 1, 1) := by decide +kernel
theorem dX4_glue_74 : decode cX4_glue 74 = .ok (.iadd, 1) := by decide +kernel
theorem dX4_glue_75 : decode cX4_glue 75 = .ok (.putfield 142, 3) := by decide +kernel
theorem dX4_glue_78 : decode cX4_glue 78 = .ok (.aload_n 0, 1) := by decide +kernel
theorem dX4_glue_79 : decode cX4_glue 79 = .ok (.getfield 142, 3) := by decide +kernel
theorem dX4_glue_82 : decode cX4_glue 82 = .ok (.ireturn, 1) := by decide +kernel
theorem dX4_unglue_0 : decode cX4_unglue 0 = .ok (.aload_n 0, 1) := by decide +kernel
theorem dX4_unglue_1 : decode cX4_unglue 1 = .ok (.getfield 142, 3) := by decide +kernel
theorem dX4_unglue_4 : decode cX4_unglue 4 = .ok (.ifCond .ne 13, 3) := by decide +kernel
theorem dX4_unglue_7 : decode cX4_unglue 7 = .ok (.new 58, 3) := by decide +kernel
theorem dX4_unglue_10 : decode cX4_unglue 10 = .ok (.dup, 1) := by decide +kernel
theorem dX4_unglue_11 : decode cX4_unglue 11 = .ok (.ldc 148, 2) := by decide +kernel
theorem dX4_unglue_13 : decode cX4_unglue 13 = .ok (.invokespecial 62, 3) := by decide +kernel
theorem dX4_unglue_16 : decode cX4_unglue 16 = .ok (.athrow, 1) := by decide +kernel
theorem dX4_unglue_17 : decode cX4_unglue 17 = .ok (.aload_n 0, 1) := by decide +kernel
theorem dX4_unglue_18 : decode cX4_unglue 18 = .ok (.aload_n 0, 1) := by decide +kernel
theorem dX4_unglue_19 : decode cX4_unglue 19 = .ok (.getfield 142, 3) := by decide +kernel
theorem dX4_unglue_22 : decode cX4_unglue 22 = .ok (.iconst 1, 1) := by decide +kernel
theorem dX4_unglue_23 : decode cX4_unglue 23 = .ok (.isub, 1) := by decide +kernel
theorem dX4_unglue_24 : decode cX4_unglue 24 = .ok (.invokevirtual 150, 3) := by decide +kernel
theorem dX4_unglue_27 : decode cX4_unglue 27 = .ok (.istore_n 1, 1) := by decide +kernel
theorem dX4_unglue_28 : decode cX4_unglue 28 = .ok (.aload_n 0, 1) := by decide +kernel
theorem dX4_unglue_29 : decode cX4_unglue 29 = .ok (.aload_n 0, 1) := by decide +kernel
theorem dX4_unglue_30 : decode cX4_unglue 30 = .ok (.getfield 142, 3) := by decide +kernel
theorem dX4_unglue_33 : decode cX4_unglue 33 = .ok (.iconst 1, 1) := by decide +kernel
theorem dX4_unglue_34 : decode cX4_unglue 34 = .ok (.isub, 1) := by decide +kernel
theorem dX4_unglue_35 : decode cX4_unglue 35 = .ok (.invokevirtual 154, 3) := by decide +kernel
theorem dX4_unglue_38 : decode cX4_unglue 38 = .ok (.pop, 1) := by decide +kernel
theorem dX4_unglue_39 : decode cX4_unglue 39 = .ok (.iload_n 1, 1) := by decide +kernel
theorem dX4_unglue_40 : decode cX4_unglue 40 = .ok (.ireturn, 1) := by decide +kernel
theorem dX4_glued_0 : decode cX4_glued 0 = .ok (.iload_n 1, 1) := by decide +kernel
theorem dX4_glued_1 : decode cX4_glued 1 = .ok (.ifCond .ge 13, 3) := by decide +kernel
theorem dX4_glued_4 : decode cX4_glued 4 = .ok (.new 157, 3) := by decide +kernel
theorem dX4_glued_7 : decode cX4_glued 7 = .ok (.dup, 1) := by decide +kernel
theorem dX4_glued_8 : decode cX4_glued 8 = .ok (.ldc 159, 2) := by decide +kernel
theorem dX4_glued_10 : decode cX4_glued 10 = .ok (.invokespecial 161, 3) := by decide +kernel
theorem dX4_glued_13 : decode cX4_glued 13 = .ok (.athrow, 1) := by decide +kernel
theorem dX4_glued_14 : decode cX4_glued 14 = .ok (.aload_n 0, 1) := by decide +kernel
theorem dX4_glued_15 : decode cX4_glued 15 = .ok (.iload_n 1, 1) := by decide +kernel
theorem dX4_glued_16 : decode cX4_glued 16 = .ok (.invokevirtual 150, 3) := by decide +kernel
theorem dX4_glued_19 : decode cX4_glued 19 = .ok (.ireturn, 1) := by decide +kernel
theorem dX4_resize_0 : decode cX4_resize 0 = .ok (.aload_n 0, 1) := by decide +kernel
theorem dX4_resize_1 : decode cX4_resize 1 = .ok (.iload_n 1, 1) := by decide +kernel
theorem dX4_resize_2 : decode cX4_resize 2 = .ok (.invokevirtual 92, 3) := by decide +kernel
theorem dX4_resize_5 : decode cX4_resize 5 = .ok (.iload_n 2, 1) := by decide +kernel
theorem dX4_resize_6 : decode cX4_resize 6 = .ok (.invokestatic 69, 3) := by decide +kernel
theorem dX4_resize_9 : decode cX4_resize 9 = .ok (.aload_n 0, 1) := by decide +kernel
theorem dX4_resize_10 : decode cX4_resize 10 = .ok (.getfield 16, 3) := by decide +kernel
theorem dX4_resize_13 : decode cX4_resize 13 = .ok (.iload_n 1, 1) := by decide +kernel
theorem dX4_resize_14 : decode cX4_resize 14 = .ok (.invokevirtual 63, 3) := by decide +kernel
theorem dX4_resize_17 : decode cX4_resize 17 = .ok (.checkcast 74, 3) := by decide +kernel
theorem dX4_resize_20 : decode cX4_resize 20 = .ok (.astore_n 3, 1) := by decide +kernel
theorem dX4_resize_21 : decode cX4_resize 21 = .ok (.aload_n 3, 1) := by decide +kernel
theorem dX4_resize_22 : decode cX4_resize 22 = .ok (.iload_n 2, 1) := by decide +kernel
theorem dX4_resize_23 : decode cX4_resize 23 = .ok (.putfield 162, 3) := by decide +kernel
theorem dX4_resize_26 : decode cX4_resize 26 = .ok (.aload_n 3, 1) := by decide +kernel
theorem dX4_resize_27 : decode cX4_resize 27 = .ok (.invokevirtual 129, 3) := by decide +kernel
theorem dX4_resize_30 : decode cX4_resize 30 = .ok (.ifCond .eq 14, 3) := by decide +kernel
theorem dX4_resize_33 : decode cX4_resize 33 = .ok (.aload_n 0, 1) := by decide +kernel
theorem dX4_resize_34 : decode cX4_resize 34 = .ok (.aload_n 3, 1) := by decide +kernel
theorem dX4_resize_35 : decode cX4_resize 35 = .ok (.getfield 145, 3) := by decide +kernel
theorem dX4_resize_38 : decode cX4_resize 38 = .ok (.invokevirtual 154, 3) := by decide +kernel
theorem dX4_resize_41 : decode cX4_resize 41 = .ok (.goto 4, 3) := by decide +kernel
theorem dX4_resize_44 : decode cX4_resize 44 = .ok (.iconst 0, 1) := by decide +kernel
theorem dX4_resize_45 : decode cX4_resize 45 = .ok (.ireturn, 1) := by decide +kernel
theorem dX4_isBound_0 : decode cX4_isBound 0 = .ok (.aload_n 0, 1) := by decide +kernel
theorem dX4_isBound_1 : decode cX4_isBound 1 = .ok (.getfield 16, 3) := by decide +kernel
theorem dX4_isBound_4 : decode cX4_isBound 4 = .ok (.invokevirtual 165, 3) := by decide +kernel
theorem dX4_isBound_7 : decode cX4_isBound 7 = .ok (.ifCond .ne 29, 3) := by decide +kernel
theorem dX4_isBound_10 : decode cX4_isBound 10 = .ok (.aload_n 0, 1) := by decide +kernel
theorem dX4_isBound_11 : decode cX4_isBound 11 = .ok (.getfield 142, 3) := by decide +kernel
theorem dX4_isBound_14 : decode cX4_isBound 14 = .ok (.aload_n 0, 1) := by decide +kernel
theorem dX4_isBound_15 : decode cX4_isBound 15 = .ok (.getfield 16, 3) := by decide +kernel
theorem dX4_isBound_18 : decode cX4_isBound 18 = .ok (.invokevirtual 50, 3) := by decide +kernel
theorem dX4_isBound_21 : decode cX4_isBound 21 = .ok (.if_icmp .ne 15, 3) := by decide +kernel
theorem dX4_isBound_24 : decode cX4_isBound 24 = .ok (.aload_n 0, 1) := by decide +kernel
theorem dX4_isBound_25 : decode cX4_isBound 25 = .ok (.invokevirtual 168, 3) := by decide +kernel
theorem dX4_isBound_28 : decode cX4_isBound 28 = .ok (.iconst (-1), 1) := by decide +kernel
theorem dX4_isBound_29 : decode cX4_isBound 29 = .ok (.if_icmp .ne 7, 3) := by decide +kernel
theorem dX4_isBound_32 : decode cX4_isBound 32 = .ok (.iconst 1, 1) := by decide +kernel
theorem dX4_isBound_33 : decode cX4_isBound 33 = .ok (.goto 4, 3) := by decide +kernel
theorem dX4_isBound_36 : decode cX4_isBound 36 = .ok (.iconst 0, 1) := by decide +kernel
theorem dX4_isBound_37 : decode cX4_isBound 37 = .ok (.ireturn, 1) := by decide +kernel
theorem dX4_tells_0 : decode cX4_tells 0 = .ok (.aload_n 0, 1) := by decide +kernel
theorem dX4_tells_1 : decode cX4_tells 1 = .ok (.iload_n 1, 1) := by decide +kernel
theorem dX4_tells_2 : decode cX4_tells 2 = .ok (.invokevirtual 35, 3) := by decide +kernel
theorem dX4_tells_5 : decode cX4_tells 5 = .ok (.iload_n 2, 1) := by decide +kernel
theorem dX4_tells_6 : decode cX4_tells 6 = .ok (.ifCond .ge 13, 3) := by decide +kernel
theorem dX4_tells_9 : decode cX4_tells 9 = .ok (.new 157, 3) := by decide +kernel
theorem dX4_tells_12 : decode cX4_tells 12 = .ok (.dup, 1) := by decide +kernel
theorem dX4_tells_13 : decode cX4_tells 13 = .ok (.ldc 171, 2) := by decide +kernel
theorem dX4_tells_15 : decode cX4_tells 15 = .ok (.invokespecial 161, 3) := by decide +kernel
theorem dX4_tells_18 : decode cX4_tells 18 = .ok (.athrow, 1) := by decide +kernel
theorem dX4_tells_19 : decode cX4_tells 19 = .ok (.aload_n 0, 1) := by decide +kernel
theorem dX4_tells_20 : decode cX4_tells 20 = .ok (.aload_n 0, 1) := by decide +kernel
theorem dX4_tells_21 : decode cX4_tells 21 = .ok (.getfield 10, 3) := by decide +kernel
theorem dX4_tells_24 : decode cX4_tells 24 = .ok (.iload_n 1, 1) := by decide +kernel
theorem dX4_tells_25 : decode cX4_tells 25 = .ok (.invokevirtual 63, 3) := by decide +kernel
theorem dX4_tells_28 : decode cX4_tells 28 = .ok (.checkcast 26, 3) := by decide +kernel
theorem dX4_tells_31 : decode cX4_tells 31 = .ok (.invokevirtual 173, 3) := by decide +kernel
theorem dX4_tells_34 : decode cX4_tells 34 = .ok (.iload_n 2, 1) := by decide +kernel
theorem dX4_tells_35 : decode cX4_tells 35 = .ok (.aload_n 0, 1) := by decide +kernel
theorem dX4_tells_36 : decode cX4_tells 36 = .ok (.getfield 22, 3) := by decide +kernel
theorem dX4_tells_39 : decode cX4_tells 39 = .ok (.invokevirtual 177, 3) := by decide +kernel
theorem dX4_tells_42 : decode cX4_tells 42 = .ok (.if_icmp .ge 14, 3) := by decide +kernel
theorem dX4_tells_45 : decode cX4_tells 45 = .ok (.aload_n 0, 1) := by decide +kernel
theorem dX4_tells_46 : decode cX4_tells 46 = .ok (.getfield 22, 3) := by decide +kernel
theorem dX4_tells_49 : decode cX4_tells 49 = .ok (.iload_n 2, 1) := by decide +kernel
theorem dX4_tells_50 : decode cX4_tells 50 = .ok (.invokevirtual 179, 3) := by decide +kernel
theorem dX4_tells_53 : decode cX4_tells 53 = .ok (.goto 4, 3) := by decide +kernel
theorem dX4_tells_56 : decode cX4_tells 56 = .ok (.iconst 0, 1) := by decide +kernel
theorem dX4_tells_57 : decode cX4_tells 57 = .ok (.ireturn, 1) := by decide +kernel
theorem dX4_requireFold_0 : decode cX4_requireFold 0 = .ok (.iload_n 1, 1) := by decide +kernel
theorem dX4_requireFold_1 : decode cX4_requireFold 1 = .ok (.iconst 0, 1) := by decide +kernel
theorem dX4_requireFold_2 : decode cX4_requireFold 2 = .ok (.aload_n 0, 1) := by decide +kernel
theorem dX4_requireFold_3 : decode cX4_requireFold 3 = .ok (.getfield 10, 3) := by decide +kernel
theorem dX4_requireFold_6 : decode cX4_requireFold 6 = .ok (.invokevirtual 50, 3) := by decide +kernel
theorem dX4_requireFold_9 : decode cX4_requireFold 9 = .ok (.iconst 1, 1) := by decide +kernel
theorem dX4_requireFold_10 : decode cX4_requireFold 10 = .ok (.isub, 1) := by decide +kernel
theorem dX4_requireFold_11 : decode cX4_requireFold 11 = .ok (.invokestatic 39, 3) := by decide +kernel
theorem dX4_requireFold_14 : decode cX4_requireFold 14 = .ok (.ifCond .eq 13, 3) := by decide +kernel
theorem dX4_requireFold_17 : decode cX4_requireFold 17 = .ok (.new 157, 3) := by decide +kernel
theorem dX4_requireFold_20 : decode cX4_requireFold 20 = .ok (.dup, 1) := by decide +kernel
theorem dX4_requireFold_21 : decode cX4_requireFold 21 = .ok (.ldc 183, 2) := by decide +kernel
theorem dX4_requireFold_23 : decode cX4_requireFold 23 = .ok (.invokespecial 161, 3) := by decide +kernel
theorem dX4_requireFold_26 : decode cX4_requireFold 26 = .ok (.athrow, 1) := by decide +kernel
theorem dX4_requireFold_27 : decode cX4_requireFold 27 = .ok (.return_, 1) := by decide +kernel
theorem dX4_requirePart_0 : decode cX4_requirePart 0 = .ok (.iload_n 1, 1) := by decide +kernel
theorem dX4_requirePart_1 : decode cX4_requirePart 1 = .ok (.iconst 0, 1) := by decide +kernel
theorem dX4_requirePart_2 : decode cX4_requirePart 2 = .ok (.aload_n 0, 1) := by decide +kernel
theorem dX4_requirePart_3 : decode cX4_requirePart 3 = .ok (.getfield 16, 3) := by decide +kernel
theorem dX4_requirePart_6 : decode cX4_requirePart 6 = .ok (.invokevirtual 50, 3) := by decide +kernel
theorem dX4_requirePart_9 : decode cX4_requirePart 9 = .ok (.iconst 1, 1) := by decide +kernel
theorem dX4_requirePart_10 : decode cX4_requirePart 10 = .ok (.isub, 1) := by decide +kernel
theorem dX4_requirePart_11 : decode cX4_requirePart 11 = .ok (.invokestatic 39, 3) := by decide +kernel
theorem dX4_requirePart_14 : decode cX4_requirePart 14 = .ok (.ifCond .eq 13, 3) := by decide +kernel
theorem dX4_requirePart_17 : decode cX4_requirePart 17 = .ok (.new 157, 3) := by decide +kernel
theorem dX4_requirePart_20 : decode cX4_requirePart 20 = .ok (.dup, 1) := by decide +kernel
theorem dX4_requirePart_21 : decode cX4_requirePart 21 = .ok (.ldc 185, 2) := by decide +kernel
theorem dX4_requirePart_23 : decode cX4_requirePart 23 = .ok (.invokespecial 161, 3) := by decide +kernel
theorem dX4_requirePart_26 : decode cX4_requirePart 26 = .ok (.athrow, 1) := by decide +kernel
theorem dX4_requirePart_27 : decode cX4_requirePart 27 = .ok (.return_, 1) := by decide +kernel
theorem dX4_requireOpen_0 : decode cX4_requireOpen 0 = .ok (.iload_n 0, 1) := by decide +kernel
theorem dX4_requireOpen_1 : decode cX4_requireOpen 1 = .ok (.iconst 0, 1) := by decide +kernel
theorem dX4_requireOpen_2 : decode cX4_requireOpen 2 = .ok (.sipush 180, 3) := by decide +kernel
theorem dX4_requireOpen_5 : decode cX4_requireOpen 5 = .ok (.invokestatic 39, 3) := by decide +kernel
theorem dX4_requireOpen_8 : decode cX4_requireOpen 8 = .ok (.ifCond .eq 13, 3) := by decide +kernel
theorem dX4_requireOpen_11 : decode cX4_requireOpen 11 = .ok (.new 43, 3) := by decide +kernel
theorem dX4_requireOpen_14 : decode cX4_requireOpen 14 = .ok (.dup, 1) := by decide +kernel
theorem dX4_requireOpen_15 : decode cX4_requireOpen 15 = .ok (.ldc 187, 2) := by decide +kernel
theorem dX4_requireOpen_17 : decode cX4_requireOpen 17 = .ok (.invokespecial 47, 3) := by decide +kernel
theorem dX4_requireOpen_20 : decode cX4_requireOpen 20 = .ok (.athrow, 1) := by decide +kernel
theorem dX4_requireOpen_21 : decode cX4_requireOpen 21 = .ok (.return_, 1) := by decide +kernel
theorem dX4_requireWhat_0 : decode cX4_requireWhat 0 = .ok (.iload_n 0, 1) := by decide +kernel
theorem dX4_requireWhat_1 : decode cX4_requireWhat 1 = .ok (.iconst 0, 1) := by decide +kernel
theorem dX4_requireWhat_2 : decode cX4_requireWhat 2 = .ok (.iconst 2, 1) := by decide +kernel
theorem dX4_requireWhat_3 : decode cX4_requireWhat 3 = .ok (.invokestatic 39, 3) := by decide +kernel
theorem dX4_requireWhat_6 : decode cX4_requireWhat 6 = .ok (.ifCond .eq 13, 3) := by decide +kernel
theorem dX4_requireWhat_9 : decode cX4_requireWhat 9 = .ok (.new 43, 3) := by decide +kernel
theorem dX4_requireWhat_12 : decode cX4_requireWhat 12 = .ok (.dup, 1) := by decide +kernel
theorem dX4_requireWhat_13 : decode cX4_requireWhat 13 = .ok (.ldc 189, 2) := by decide +kernel
theorem dX4_requireWhat_15 : decode cX4_requireWhat 15 = .ok (.invokespecial 47, 3) := by decide +kernel
theorem dX4_requireWhat_18 : decode cX4_requireWhat 18 = .ok (.athrow, 1) := by decide +kernel
theorem dX4_requireWhat_19 : decode cX4_requireWhat 19 = .ok (.return_, 1) := by decide +kernel
theorem dX4_requireLength_0 : decode cX4_requireLength 0 = .ok (.iload_n 0, 1) := by decide +kernel
theorem dX4_requireLength_1 : decode cX4_requireLength 1 = .ok (.iconst 1, 1) := by decide +kernel
theorem dX4_requireLength_2 : decode cX4_requireLength 2 = .ok (.bipush 30, 2) := by decide +kernel
theorem dX4_requireLength_4 : decode cX4_requireLength 4 = .ok (.invokestatic 39, 3) := by decide +kernel
theorem dX4_requireLength_7 : decode cX4_requireLength 7 = .ok (.ifCond .eq 13, 3) := by decide +kernel
theorem dX4_requireLength_10 : decode cX4_requireLength 10 = .ok (.new 43, 3) := by decide +kernel
theorem dX4_requireLength_13 : decode cX4_requireLength 13 = .ok (.dup, 1) := by decide +kernel
theorem dX4_requireLength_14 : decode cX4_requireLength 14 = .ok (.ldc 191, 2) := by decide +kernel
theorem dX4_requireLength_16 : decode cX4_requireLength 16 = .ok (.invokespecial 47, 3) := by decide +kernel
theorem dX4_requireLength_19 : decode cX4_requireLength 19 = .ok (.athrow, 1) := by decide +kernel
theorem dX4_requireLength_20 : decode cX4_requireLength 20 = .ok (.return_, 1) := by decide +kernel
theorem dX4_isOutside_0 : decode cX4_isOutside 0 = .ok (.iload_n 0, 1) := by decide +kernel
theorem dX4_isOutside_1 : decode cX4_isOutside 1 = .ok (.iload_n 1, 1) := by decide +kernel
theorem dX4_isOutside_2 : decode cX4_isOutside 2 = .ok (.if_icmp .lt 8, 3) := by decide +kernel
theorem dX4_isOutside_5 : decode cX4_isOutside 5 = .ok (.iload_n 0, 1) := by decide +kernel
theorem dX4_isOutside_6 : decode cX4_isOutside 6 = .ok (.iload_n 2, 1) := by decide +kernel
theorem dX4_isOutside_7 : decode cX4_isOutside 7 = .ok (.if_icmp .le 7, 3) := by decide +kernel
theorem dX4_isOutside_10 : decode cX4_isOutside 10 = .ok (.iconst 1, 1) := by decide +kernel
theorem dX4_isOutside_11 : decode cX4_isOutside 11 = .ok (.goto 4, 3) := by decide +kernel
theorem dX4_isOutside_14 : decode cX4_isOutside 14 = .ok (.iconst 0, 1) := by decide +kernel
theorem dX4_isOutside_15 : decode cX4_isOutside 15 = .ok (.ireturn, 1) := by decide +kernel
theorem dX4_openTo_0 : decode cX4_openTo 0 = .ok (.iconst 0, 1) := by decide +kernel
theorem dX4_openTo_1 : decode cX4_openTo 1 = .ok (.istore_n 2, 1) := by decide +kernel
theorem dX4_openTo_2 : decode cX4_openTo 2 = .ok (.iload_n 2, 1) := by decide +kernel
theorem dX4_openTo_3 : decode cX4_openTo 3 = .ok (.aload_n 0, 1) := by decide +kernel
theorem dX4_openTo_4 : decode cX4_openTo 4 = .ok (.getfield 10, 3) := by decide +kernel
theorem dX4_openTo_7 : decode cX4_openTo 7 = .ok (.invokevirtual 50, 3) := by decide +kernel
theorem dX4_openTo_10 : decode cX4_openTo 10 = .ok (.if_icmp .ge 24, 3) := by decide +kernel
theorem dX4_openTo_13 : decode cX4_openTo 13 = .ok (.aload_n 0, 1) := by decide +kernel
theorem dX4_openTo_14 : decode cX4_openTo 14 = .ok (.getfield 10, 3) := by decide +kernel
theorem dX4_openTo_17 : decode cX4_openTo 17 = .ok (.iload_n 2, 1) := by decide +kernel
theorem dX4_openTo_18 : decode cX4_openTo 18 = .ok (.invokevirtual 63, 3) := by decide +kernel
theorem dX4_openTo_21 : decode cX4_openTo 21 = .ok (.checkcast 26, 3) := by decide +kernel
theorem dX4_openTo_24 : decode cX4_openTo 24 = .ok (.iload_n 1, 1) := by decide +kernel
theorem dX4_openTo_25 : decode cX4_openTo 25 = .ok (.invokevirtual 193, 3) := by decide +kernel
theorem dX4_openTo_28 : decode cX4_openTo 28 = .ok (.iinc 2 1, 3) := by decide +kernel
theorem dX4_openTo_31 : decode cX4_openTo 31 = .ok (.goto (-29), 3) := by decide +kernel
theorem dX4_openTo_34 : decode cX4_openTo 34 = .ok (.return_, 1) := by decide +kernel
theorem dX4_openByDegreesTo_0 : decode cX4_openByDegreesTo 0 = .ok (.aload_n 0, 1) := by decide +kernel
theorem dX4_openByDegreesTo_1 : decode cX4_openByDegreesTo 1 = .ok (.iconst 0, 1) := by decide +kernel
theorem dX4_openByDegreesTo_2 : decode cX4_openByDegreesTo 2 = .ok (.invokevirtual 82, 3) := by decide +kernel
theorem dX4_openByDegreesTo_5 : decode cX4_openByDegreesTo 5 = .ok (.iconst 1, 1) := by decide +kernel
theorem dX4_openByDegreesTo_6 : decode cX4_openByDegreesTo 6 = .ok (.istore_n 2, 1) := by decide +kernel
theorem dX4_openByDegreesTo_7 : decode cX4_openByDegreesTo 7 = .ok (.iload_n 2, 1) := by decide +kernel
theorem dX4_openByDegreesTo_8 : decode cX4_openByDegreesTo 8 = .ok (.iload_n 1, 1) := by decide +kernel
theorem dX4_openByDegreesTo_9 : decode cX4_openByDegreesTo 9 = .ok (.if_icmp .gt 42, 3) := by decide +kernel
theorem dX4_openByDegreesTo_12 : decode cX4_openByDegreesTo 12 = .ok (.iconst 0, 1) := by decide +kernel
theorem dX4_openByDegreesTo_13 : decode cX4_openByDegreesTo 13 = .ok (.istore_n 3, 1) := by decide +kernel
theorem dX4_openByDegreesTo_14 : decode cX4_openByDegreesTo 14 = .ok (.iload_n 3, 1) := by decide +kernel
theorem dX4_openByDegreesTo_15 : decode cX4_openByDegreesTo 15 = .ok (.aload_n 0, 1) := by decide +kernel
theorem dX4_openByDegreesTo_16 : decode cX4_openByDegreesTo 16 = .ok (.getfield 10, 3) := by decide +kernel
theorem dX4_openByDegreesTo_19 : decode cX4_openByDegreesTo 19 = .ok (.invokevirtual 50, 3) := by decide +kernel
theorem dX4_openByDegreesTo_22 : decode cX4_openByDegreesTo 22 = .ok (.if_icmp .ge 23, 3) := by decide +kernel
theorem dX4_openByDegreesTo_25 : decode cX4_openByDegreesTo 25 = .ok (.aload_n 0, 1) := by decide +kernel
theorem dX4_openByDegreesTo_26 : decode cX4_openByDegreesTo 26 = .ok (.getfield 10, 3) := by decide +kernel
theorem dX4_openByDegreesTo_29 : decode cX4_openByDegreesTo 29 = .ok (.iload_n 3, 1) := by decide +kernel
theorem dX4_openByDegreesTo_30 : decode cX4_openByDegreesTo 30 = .ok (.invokevirtual 63, 3) := by decide +kernel
theorem dX4_openByDegreesTo_33 : decode cX4_openByDegreesTo 33 = .ok (.checkcast 26, 3) := by decide +kernel
theorem dX4_openByDegreesTo_36 : decode cX4_openByDegreesTo 36 = .ok (.invokevirtual 194, 3) := by decide +kernel
theorem dX4_openByDegreesTo_39 : decode cX4_openByDegreesTo 39 = .ok (.iinc 3 1, 3) := by decide +kernel
theorem dX4_openByDegreesTo_42 : decode cX4_openByDegreesTo 42 = .ok (.goto (-28), 3) := by decide +kernel
theorem dX4_openByDegreesTo_45 : decode cX4_openByDegreesTo 45 = .ok (.iinc 2 1, 3) := by decide +kernel
theorem dX4_openByDegreesTo_48 : decode cX4_openByDegreesTo 48 = .ok (.goto (-41), 3) := by decide +kernel
theorem dX4_openByDegreesTo_51 : decode cX4_openByDegreesTo 51 = .ok (.return_, 1) := by decide +kernel
theorem dX4_tellAll_0 : decode cX4_tellAll 0 = .ok (.aload_n 0, 1) := by decide +kernel
theorem dX4_tellAll_1 : decode cX4_tellAll 1 = .ok (.getfield 22, 3) := by decide +kernel
theorem dX4_tellAll_4 : decode cX4_tellAll 4 = .ok (.iconst 0, 1) := by decide +kernel
theorem dX4_tellAll_5 : decode cX4_tellAll 5 = .ok (.invokevirtual 197, 3) := by decide +kernel
theorem dX4_tellAll_8 : decode cX4_tellAll 8 = .ok (.aload_n 1, 1) := by decide +kernel
theorem dX4_tellAll_9 : decode cX4_tellAll 9 = .ok (.astore_n 2, 1) := by decide +kernel
theorem dX4_tellAll_10 : decode cX4_tellAll 10 = .ok (.aload_n 2, 1) := by decide +kernel
theorem dX4_tellAll_11 : decode cX4_tellAll 11 = .ok (.ifnull 19, 3) := by decide +kernel
theorem dX4_tellAll_14 : decode cX4_tellAll 14 = .ok (.aload_n 2, 1) := by decide +kernel
theorem dX4_tellAll_15 : decode cX4_tellAll 15 = .ok (.aload_n 0, 1) := by decide +kernel
theorem dX4_tellAll_16 : decode cX4_tellAll 16 = .ok (.getfield 22, 3) := by decide +kernel
theorem dX4_tellAll_19 : decode cX4_tellAll 19 = .ok (.invokevirtual 200, 3) := by decide +kernel
theorem dX4_tellAll_22 : decode cX4_tellAll 22 = .ok (.aload_n 2, 1) := by decide +kernel
theorem dX4_tellAll_23 : decode cX4_tellAll 23 = .ok (.getfield 204, 3) := by decide +kernel
theorem dX4_tellAll_26 : decode cX4_tellAll 26 = .ok (.astore_n 2, 1) := by decide +kernel
theorem dX4_tellAll_27 : decode cX4_tellAll 27 = .ok (.goto (-17), 3) := by decide +kernel
theorem dX4_tellAll_30 : decode cX4_tellAll 30 = .ok (.return_, 1) := by decide +kernel
theorem dX4_firstThatMeetsAnother_0 : decode cX4_firstThatMeetsAnother 0 = .ok (.iconst 0, 1) := by decide +kernel
theorem dX4_firstThatMeetsAnother_1 : decode cX4_firstThatMeetsAnother 1 = .ok (.istore_n 1, 1) := by decide +kernel
theorem dX4_firstThatMeetsAnother_2 : decode cX4_firstThatMeetsAnother 2 = .ok (.iload_n 1, 1) := by decide +kernel
theorem dX4_firstThatMeetsAnother_3 : decode cX4_firstThatMeetsAnother 3 = .ok (.aload_n 0, 1) := by decide +kernel
theorem dX4_firstThatMeetsAnother_4 : decode cX4_firstThatMeetsAnother 4 = .ok (.getfield 16, 3) := by decide +kernel
theorem dX4_firstThatMeetsAnother_7 : decode cX4_firstThatMeetsAnother 7 = .ok (.invokevirtual 50, 3) := by decide +kernel
theorem dX4_firstThatMeetsAnother_10 : decode cX4_firstThatMeetsAnother 10 = .ok (.if_icmp .ge 60, 3) := by decide +kernel
theorem dX4_firstThatMeetsAnother_13 : decode cX4_firstThatMeetsAnother 13 = .ok (.iload_n 1, 1) := by decide +kernel
theorem dX4_firstThatMeetsAnother_14 : decode cX4_firstThatMeetsAnother 14 = .ok (.iconst 1, 1) := by decide +kernel
theorem dX4_firstThatMeetsAnother_15 : decode cX4_firstThatMeetsAnother 15 = .ok (.iadd, 1) := by decide +kernel
theorem dX4_firstThatMeetsAnother_16 : decode cX4_firstThatMeetsAnother 16 = .ok (.istore_n 2, 1) := by decide +kernel
theorem dX4_firstThatMeetsAnother_17 : decode cX4_firstThatMeetsAnother 17 = .ok (.iload_n 2, 1) := by decide +kernel
theorem dX4_firstThatMeetsAnother_18 : decode cX4_firstThatMeetsAnother 18 = .ok (.aload_n 0, 1) := by decide +kernel
theorem dX4_firstThatMeetsAnother_19 : decode cX4_firstThatMeetsAnother 19 = .ok (.getfield 16, 3) := by decide +kernel
theorem dX4_firstThatMeetsAnother_22 : decode cX4_firstThatMeetsAnother 22 = .ok (.invokevirtual 50, 3) := by decide +kernel
theorem dX4_firstThatMeetsAnother_25 : decode cX4_firstThatMeetsAnother 25 = .ok (.if_icmp .ge 39, 3) := by decide +kernel
theorem dX4_firstThatMeetsAnother_28 : decode cX4_firstThatMeetsAnother 28 = .ok (.aload_n 0, 1) := by decide +kernel
theorem dX4_firstThatMeetsAnother_29 : decode cX4_firstThatMeetsAnother 29 = .ok (.getfield 16, 3) := by decide +kernel
theorem dX4_firstThatMeetsAnother_32 : decode cX4_firstThatMeetsAnother 32 = .ok (.iload_n 1, 1) := by decide +kernel
theorem dX4_firstThatMeetsAnother_33 : decode cX4_firstThatMeetsAnother 33 = .ok (.invokevirtual 63, 3) := by decide +kernel
theorem dX4_firstThatMeetsAnother_36 : decode cX4_firstThatMeetsAnother 36 = .ok (.checkcast 74, 3) := by decide +kernel
theorem dX4_firstThatMeetsAnother_39 : decode cX4_firstThatMeetsAnother 39 = .ok (.aload_n 0, 1) := by decide +kernel
theorem dX4_firstThatMeetsAnother_40 : decode cX4_firstThatMeetsAnother 40 = .ok (.getfield 16, 3) := by decide +kernel
theorem dX4_firstThatMeetsAnother_43 : decode cX4_firstThatMeetsAnother 43 = .ok (.iload_n 2, 1) := by decide +kernel
theorem dX4_firstThatMeetsAnother_44 : decode cX4_firstThatMeetsAnother 44 = .ok (.invokevirtual 63, 3) := by decide +kernel
theorem dX4_firstThatMeetsAnother_47 : decode cX4_firstThatMeetsAnother 47 = .ok (.checkcast 74, 3) := by decide +kernel
theorem dX4_firstThatMeetsAnother_50 : decode cX4_firstThatMeetsAnother 50 = .ok (.invokevirtual 107, 3) := by decide +kernel
theorem dX4_firstThatMeetsAnother_53 : decode cX4_firstThatMeetsAnother 53 = .ok (.ifCond .eq 5, 3) := by decide +kernel
theorem dX4_firstThatMeetsAnother_56 : decode cX4_firstThatMeetsAnother 56 = .ok (.iload_n 1, 1) := by decide +kernel
theorem dX4_firstThatMeetsAnother_57 : decode cX4_firstThatMeetsAnother 57 = .ok (.ireturn, 1) := by decide +kernel
theorem dX4_firstThatMeetsAnother_58 : decode cX4_firstThatMeetsAnother 58 = .ok (.iinc 2 1, 3) := by decide +kernel
theorem dX4_firstThatMeetsAnother_61 : decode cX4_firstThatMeetsAnother 61 = .ok (.goto (-44), 3) := by decide +kernel
theorem dX4_firstThatMeetsAnother_64 : decode cX4_firstThatMeetsAnother 64 = .ok (.iinc 1 1, 3) := by decide +kernel
theorem dX4_firstThatMeetsAnother_67 : decode cX4_firstThatMeetsAnother 67 = .ok (.goto (-65), 3) := by decide +kernel
theorem dX4_firstThatMeetsAnother_70 : decode cX4_firstThatMeetsAnother 70 = .ok (.iconst (-1), 1) := by decide +kernel
theorem dX4_firstThatMeetsAnother_71 : decode cX4_firstThatMeetsAnother 71 = .ok (.ireturn, 1) := by decide +kernel
theorem dX4_isStartCovered_0 : decode cX4_isStartCovered 0 = .ok (.aload_n 0, 1) := by decide +kernel
theorem dX4_isStartCovered_1 : decode cX4_isStartCovered 1 = .ok (.sipush 180, 3) := by decide +kernel
theorem dX4_isStartCovered_4 : decode cX4_isStartCovered 4 = .ok (.invokevirtual 82, 3) := by decide +kernel
theorem dX4_isStartCovered_7 : decode cX4_isStartCovered 7 = .ok (.iconst 0, 1) := by decide +kernel
theorem dX4_isStartCovered_8 : decode cX4_isStartCovered 8 = .ok (.istore_n 2, 1) := by decide +kernel
theorem dX4_isStartCovered_9 : decode cX4_isStartCovered 9 = .ok (.iload_n 2, 1) := by decide +kernel
theorem dX4_isStartCovered_10 : decode cX4_isStartCovered 10 = .ok (.aload_n 0, 1) := by decide +kernel
theorem dX4_isStartCovered_11 : decode cX4_isStartCovered 11 = .ok (.getfield 16, 3) := by decide +kernel
theorem dX4_isStartCovered_14 : decode cX4_isStartCovered 14 = .ok (.invokevirtual 50, 3) := by decide +kernel
theorem dX4_isStartCovered_17 : decode cX4_isStartCovered 17 = .ok (.if_icmp .ge 46, 3) := by decide +kernel
theorem dX4_isStartCovered_20 : decode cX4_isStartCovered 20 = .ok (.aload_n 0, 1) := by decide +kernel
theorem dX4_isStartCovered_21 : decode cX4_isStartCovered 21 = .ok (.getfield 16, 3) := by decide +kernel
theorem dX4_isStartCovered_24 : decode cX4_isStartCovered 24 = .ok (.iload_n 2, 1) := by decide +kernel
theorem dX4_isStartCovered_25 : decode cX4_isStartCovered 25 = .ok (.invokevirtual 63, 3) := by decide +kernel
theorem dX4_isStartCovered_28 : decode cX4_isStartCovered 28 = .ok (.checkcast 74, 3) := by decide +kernel
theorem dX4_isStartCovered_31 : decode cX4_isStartCovered 31 = .ok (.invokevirtual 129, 3) := by decide +kernel
theorem dX4_isStartCovered_34 : decode cX4_isStartCovered 34 = .ok (.ifCond .eq 23, 3) := by decide +kernel
theorem dX4_isStartCovered_37 : decode cX4_isStartCovered 37 = .ok (.aload_n 0, 1) := by decide +kernel
theorem dX4_isStartCovered_38 : decode cX4_isStartCovered 38 = .ok (.getfield 16, 3) := by decide +kernel
theorem dX4_isStartCovered_41 : decode cX4_isStartCovered 41 = .ok (.iload_n 2, 1) := by decide +kernel
theorem dX4_isStartCovered_42 : decode cX4_isStartCovered 42 = .ok (.invokevirtual 63, 3) := by decide +kernel
theorem dX4_isStartCovered_45 : decode cX4_isStartCovered 45 = .ok (.checkcast 74, 3) := by decide +kernel
theorem dX4_isStartCovered_48 : decode cX4_isStartCovered 48 = .ok (.aload_n 1, 1) := by decide +kernel
theorem dX4_isStartCovered_49 : decode cX4_isStartCovered 49 = .ok (.invokevirtual 208, 3) := by decide +kernel
theorem dX4_isStartCovered_52 : decode cX4_isStartCovered 52 = .ok (.ifCond .eq 5, 3) := by decide +kernel
theorem dX4_isStartCovered_55 : decode cX4_isStartCovered 55 = .ok (.iconst 1, 1) := by decide +kernel
theorem dX4_isStartCovered_56 : decode cX4_isStartCovered 56 = .ok (.ireturn, 1) := by decide +kernel
theorem dX4_isStartCovered_57 : decode cX4_isStartCovered 57 = .ok (.iinc 2 1, 3) := by decide +kernel
theorem dX4_isStartCovered_60 : decode cX4_isStartCovered 60 = .ok (.goto (-51), 3) := by decide +kernel
theorem dX4_isStartCovered_63 : decode cX4_isStartCovered 63 = .ok (.iconst 0, 1) := by decide +kernel
theorem dX4_isStartCovered_64 : decode cX4_isStartCovered 64 = .ok (.ireturn, 1) := by decide +kernel
theorem dX4_hasHold_0 : decode cX4_hasHold 0 = .ok (.aload_n 1, 1) := by decide +kernel
theorem dX4_hasHold_1 : decode cX4_hasHold 1 = .ok (.getfield 211, 3) := by decide +kernel
theorem dX4_hasHold_4 : decode cX4_hasHold 4 = .ok (.getfield 204, 3) := by decide +kernel
theorem dX4_hasHold_7 : decode cX4_hasHold 7 = .ok (.ifnonnull 5, 3) := by decide +kernel
theorem dX4_hasHold_10 : decode cX4_hasHold 10 = .ok (.iconst 1, 1) := by decide +kernel
theorem dX4_hasHold_11 : decode cX4_hasHold 11 = .ok (.ireturn, 1) := by decide +kernel
theorem dX4_hasHold_12 : decode cX4_hasHold 12 = .ok (.iconst 0, 1) := by decide +kernel
theorem dX4_hasHold_13 : decode cX4_hasHold 13 = .ok (.istore_n 2, 1) := by decide +kernel
theorem dX4_hasHold_14 : decode cX4_hasHold 14 = .ok (.iload_n 2, 1) := by decide +kernel
theorem dX4_hasHold_15 : decode cX4_hasHold 15 = .ok (.aload_n 0, 1) := by decide +kernel
theorem dX4_hasHold_16 : decode cX4_hasHold 16 = .ok (.getfield 16, 3) := by decide +kernel
theorem dX4_hasHold_19 : decode cX4_hasHold 19 = .ok (.invokevirtual 50, 3) := by decide +kernel
theorem dX4_hasHold_22 : decode cX4_hasHold 22 = .ok (.if_icmp .ge 52, 3) := by decide +kernel
theorem dX4_hasHold_25 : decode cX4_hasHold 25 = .ok (.aload_n 0, 1) := by decide +kernel
theorem dX4_hasHold_26 : decode cX4_hasHold 26 = .ok (.getfield 16, 3) := by decide +kernel
theorem dX4_hasHold_29 : decode cX4_hasHold 29 = .ok (.iload_n 2, 1) := by decide +kernel
theorem dX4_hasHold_30 : decode cX4_hasHold 30 = .ok (.invokevirtual 63, 3) := by decide +kernel
theorem dX4_hasHold_33 : decode cX4_hasHold 33 = .ok (.checkcast 74, 3) := by decide +kernel
theorem dX4_hasHold_36 : decode cX4_hasHold 36 = .ok (.invokevirtual 129, 3) := by decide +kernel
theorem dX4_hasHold_39 : decode cX4_hasHold 39 = .ok (.ifCond .eq 29, 3) := by decide +kernel
theorem dX4_hasHold_42 : decode cX4_hasHold 42 = .ok (.aload_n 0, 1) := by decide +kernel
theorem dX4_hasHold_43 : decode cX4_hasHold 43 = .ok (.getfield 16, 3) := by decide +kernel
theorem dX4_hasHold_46 : decode cX4_hasHold 46 = .ok (.iload_n 2, 1) := by decide +kernel
theorem dX4_hasHold_47 : decode cX4_hasHold 47 = .ok (.invokevirtual 63, 3) := by decide +kernel
theorem dX4_hasHold_50 : decode cX4_hasHold 50 = .ok (.checkcast 74, 3) := by decide +kernel
theorem dX4_hasHold_53 : decode cX4_hasHold 53 = .ok (.getfield 211, 3) := by decide +kernel
theorem dX4_hasHold_56 : decode cX4_hasHold 56 = .ok (.aload_n 1, 1) := by decide +kernel
theorem dX4_hasHold_57 : decode cX4_hasHold 57 = .ok (.getfield 211, 3) := by decide +kernel
theorem dX4_hasHold_60 : decode cX4_hasHold 60 = .ok (.getfield 204, 3) := by decide +kernel
theorem dX4_hasHold_63 : decode cX4_hasHold 63 = .ok (.if_acmp .ne 5, 3) := by decide +kernel
theorem dX4_hasHold_66 : decode cX4_hasHold 66 = .ok (.iconst 1, 1) := by decide +kernel
theorem dX4_hasHold_67 : decode cX4_hasHold 67 = .ok (.ireturn, 1) := by decide +kernel
theorem dX4_hasHold_68 : decode cX4_hasHold 68 = .ok (.iinc 2 1, 3) := by decide +kernel
theorem dX4_hasHold_71 : decode cX4_hasHold 71 = .ok (.goto (-57), 3) := by decide +kernel
theorem dX4_hasHold_74 : decode cX4_hasHold 74 = .ok (.iconst 0, 1) := by decide +kernel
theorem dX4_hasHold_75 : decode cX4_hasHold 75 = .ok (.ireturn, 1) := by decide +kernel
theorem dX4_partGluedAt_0 : decode cX4_partGluedAt 0 = .ok (.iconst 0, 1) := by decide +kernel
theorem dX4_partGluedAt_1 : decode cX4_partGluedAt 1 = .ok (.istore_n 2, 1) := by decide +kernel
theorem dX4_partGluedAt_2 : decode cX4_partGluedAt 2 = .ok (.iload_n 2, 1) := by decide +kernel
theorem dX4_partGluedAt_3 : decode cX4_partGluedAt 3 = .ok (.aload_n 0, 1) := by decide +kernel
theorem dX4_partGluedAt_4 : decode cX4_partGluedAt 4 = .ok (.getfield 16, 3) := by decide +kernel
theorem dX4_partGluedAt_7 : decode cX4_partGluedAt 7 = .ok (.invokevirtual 50, 3) := by decide +kernel
theorem dX4_partGluedAt_10 : decode cX4_partGluedAt 10 = .ok (.if_icmp .ge 29, 3) := by decide +kernel
theorem dX4_partGluedAt_13 : decode cX4_partGluedAt 13 = .ok (.aload_n 0, 1) := by decide +kernel
theorem dX4_partGluedAt_14 : decode cX4_partGluedAt 14 = .ok (.getfield 16, 3) := by decide +kernel
theorem dX4_partGluedAt_17 : decode cX4_partGluedAt 17 = .ok (.iload_n 2, 1) := by decide +kernel
theorem dX4_partGluedAt_18 : decode cX4_partGluedAt 18 = .ok (.invokevirtual 63, 3) := by decide +kernel
theorem dX4_partGluedAt_21 : decode cX4_partGluedAt 21 = .ok (.checkcast 74, 3) := by decide +kernel
theorem dX4_partGluedAt_24 : decode cX4_partGluedAt 24 = .ok (.getfield 145, 3) := by decide +kernel
theorem dX4_partGluedAt_27 : decode cX4_partGluedAt 27 = .ok (.iload_n 1, 1) := by decide +kernel
theorem dX4_partGluedAt_28 : decode cX4_partGluedAt 28 = .ok (.if_icmp .ne 5, 3) := by decide +kernel
theorem dX4_partGluedAt_31 : decode cX4_partGluedAt 31 = .ok (.iload_n 2, 1) := by decide +kernel
theorem dX4_partGluedAt_32 : decode cX4_partGluedAt 32 = .ok (.ireturn, 1) := by decide +kernel
theorem dX4_partGluedAt_33 : decode cX4_partGluedAt 33 = .ok (.iinc 2 1, 3) := by decide +kernel
theorem dX4_partGluedAt_36 : decode cX4_partGluedAt 36 = .ok (.goto (-34), 3) := by decide +kernel
theorem dX4_partGluedAt_39 : decode cX4_partGluedAt 39 = .ok (.iconst (-1), 1) := by decide +kernel
theorem dX4_partGluedAt_40 : decode cX4_partGluedAt 40 = .ok (.ireturn, 1) := by decide +kernel
theorem dX4_unglueFrom_0 : decode cX4_unglueFrom 0 = .ok (.iconst 0, 1) := by decide +kernel
theorem dX4_unglueFrom_1 : decode cX4_unglueFrom 1 = .ok (.istore_n 2, 1) := by decide +kernel
theorem dX4_unglueFrom_2 : decode cX4_unglueFrom 2 = .ok (.iload_n 2, 1) := by decide +kernel
theorem dX4_unglueFrom_3 : decode cX4_unglueFrom 3 = .ok (.aload_n 0, 1) := by decide +kernel
theorem dX4_unglueFrom_4 : decode cX4_unglueFrom 4 = .ok (.getfield 16, 3) := by decide +kernel
theorem dX4_unglueFrom_7 : decode cX4_unglueFrom 7 = .ok (.invokevirtual 50, 3) := by decide +kernel
theorem dX4_unglueFrom_10 : decode cX4_unglueFrom 10 = .ok (.if_icmp .ge 42, 3) := by decide +kernel
theorem dX4_unglueFrom_13 : decode cX4_unglueFrom 13 = .ok (.aload_n 0, 1) := by decide +kernel
theorem dX4_unglueFrom_14 : decode cX4_unglueFrom 14 = .ok (.getfield 16, 3) := by decide +kernel
theorem dX4_unglueFrom_17 : decode cX4_unglueFrom 17 = .ok (.iload_n 2, 1) := by decide +kernel
theorem dX4_unglueFrom_18 : decode cX4_unglueFrom 18 = .ok (.invokevirtual 63, 3) := by decide +kernel
theorem dX4_unglueFrom_21 : decode cX4_unglueFrom 21 = .ok (.checkcast 74, 3) := by decide +kernel
theorem dX4_unglueFrom_24 : decode cX4_unglueFrom 24 = .ok (.getfield 145, 3) := by decide +kernel
theorem dX4_unglueFrom_27 : decode cX4_unglueFrom 27 = .ok (.iload_n 1, 1) := by decide +kernel
theorem dX4_unglueFrom_28 : decode cX4_unglueFrom 28 = .ok (.if_icmp .lt 18, 3) := by decide +kernel
theorem dX4_unglueFrom_31 : decode cX4_unglueFrom 31 = .ok (.aload_n 0, 1) := by decide +kernel
theorem dX4_unglueFrom_32 : decode cX4_unglueFrom 32 = .ok (.getfield 16, 3) := by decide +kernel
theorem dX4_unglueFrom_35 : decode cX4_unglueFrom 35 = .ok (.iload_n 2, 1) := by decide +kernel
theorem dX4_unglueFrom_36 : decode cX4_unglueFrom 36 = .ok (.invokevirtual 63, 3) := by decide +kernel
theorem dX4_unglueFrom_39 : decode cX4_unglueFrom 39 = .ok (.checkcast 74, 3) := by decide +kernel
theorem dX4_unglueFrom_42 : decode cX4_unglueFrom 42 = .ok (.iconst (-1), 1) := by decide +kernel
theorem dX4_unglueFrom_43 : decode cX4_unglueFrom 43 = .ok (.putfield 145, 3) := by decide +kernel
theorem dX4_unglueFrom_46 : decode cX4_unglueFrom 46 = .ok (.iinc 2 1, 3) := by decide +kernel
theorem dX4_unglueFrom_49 : decode cX4_unglueFrom 49 = .ok (.goto (-47), 3) := by decide +kernel
theorem dX4_unglueFrom_52 : decode cX4_unglueFrom 52 = .ok (.aload_n 0, 1) := by decide +kernel
theorem dX4_unglueFrom_53 : decode cX4_unglueFrom 53 = .ok (.getfield 142, 3) := by decide +kernel
theorem dX4_unglueFrom_56 : decode cX4_unglueFrom 56 = .ok (.iload_n 1, 1) := by decide +kernel
theorem dX4_unglueFrom_57 : decode cX4_unglueFrom 57 = .ok (.isub, 1) := by decide +kernel
theorem dX4_unglueFrom_58 : decode cX4_unglueFrom 58 = .ok (.istore_n 2, 1) := by decide +kernel
theorem dX4_unglueFrom_59 : decode cX4_unglueFrom 59 = .ok (.aload_n 0, 1) := by decide +kernel
theorem dX4_unglueFrom_60 : decode cX4_unglueFrom 60 = .ok (.iload_n 1, 1) := by decide +kernel
theorem dX4_unglueFrom_61 : decode cX4_unglueFrom 61 = .ok (.putfield 142, 3) := by decide +kernel
theorem dX4_unglueFrom_64 : decode cX4_unglueFrom 64 = .ok (.iload_n 2, 1) := by decide +kernel
theorem dX4_unglueFrom_65 : decode cX4_unglueFrom 65 = .ok (.ireturn, 1) := by decide +kernel
theorem dX4_layAllParts_0 : decode cX4_layAllParts 0 = .ok (.aload_n 0, 1) := by decide +kernel
theorem dX4_layAllParts_1 : decode cX4_layAllParts 1 = .ok (.iconst 0, 1) := by decide +kernel
theorem dX4_layAllParts_2 : decode cX4_layAllParts 2 = .ok (.putfield 117, 3) := by decide +kernel
theorem dX4_layAllParts_5 : decode cX4_layAllParts 5 = .ok (.iconst 0, 1) := by decide +kernel
theorem dX4_layAllParts_6 : decode cX4_layAllParts 6 = .ok (.istore_n 1, 1) := by decide +kernel
theorem dX4_layAllParts_7 : decode cX4_layAllParts 7 = .ok (.iload_n 1, 1) := by decide +kernel
theorem dX4_layAllParts_8 : decode cX4_layAllParts 8 = .ok (.aload_n 0, 1) := by decide +kernel
theorem dX4_layAllParts_9 : decode cX4_layAllParts 9 = .ok (.getfield 16, 3) := by decide +kernel
theorem dX4_layAllParts_12 : decode cX4_layAllParts 12 = .ok (.invokevirtual 50, 3) := by decide +kernel
theorem dX4_layAllParts_15 : decode cX4_layAllParts 15 = .ok (.if_icmp .ge 24, 3) := by decide +kernel
theorem dX4_layAllParts_18 : decode cX4_layAllParts 18 = .ok (.aload_n 0, 1) := by decide +kernel
theorem dX4_layAllParts_19 : decode cX4_layAllParts 19 = .ok (.getfield 16, 3) := by decide +kernel
theorem dX4_layAllParts_22 : decode cX4_layAllParts 22 = .ok (.iload_n 1, 1) := by decide +kernel
theorem dX4_layAllParts_23 : decode cX4_layAllParts 23 = .ok (.invokevirtual 63, 3) := by decide +kernel
theorem dX4_layAllParts_26 : decode cX4_layAllParts 26 = .ok (.checkcast 74, 3) := by decide +kernel
theorem dX4_layAllParts_29 : decode cX4_layAllParts 29 = .ok (.iconst 0, 1) := by decide +kernel
theorem dX4_layAllParts_30 : decode cX4_layAllParts 30 = .ok (.putfield 214, 3) := by decide +kernel
theorem dX4_layAllParts_33 : decode cX4_layAllParts 33 = .ok (.iinc 1 1, 3) := by decide +kernel
theorem dX4_layAllParts_36 : decode cX4_layAllParts 36 = .ok (.goto (-29), 3) := by decide +kernel
theorem dX4_layAllParts_39 : decode cX4_layAllParts 39 = .ok (.iconst 0, 1) := by decide +kernel
theorem dX4_layAllParts_40 : decode cX4_layAllParts 40 = .ok (.istore_n 1, 1) := by decide +kernel
theorem dX4_layAllParts_41 : decode cX4_layAllParts 41 = .ok (.iload_n 1, 1) := by decide +kernel
theorem dX4_layAllParts_42 : decode cX4_layAllParts 42 = .ok (.aload_n 0, 1) := by decide +kernel
theorem dX4_layAllParts_43 : decode cX4_layAllParts 43 = .ok (.getfield 16, 3) := by decide +kernel
theorem dX4_layAllParts_46 : decode cX4_layAllParts 46 = .ok (.invokevirtual 50, 3) := by decide +kernel
theorem dX4_layAllParts_49 : decode cX4_layAllParts 49 = .ok (.if_icmp .ge 24, 3) := by decide +kernel
theorem dX4_layAllParts_52 : decode cX4_layAllParts 52 = .ok (.aload_n 0, 1) := by decide +kernel
theorem dX4_layAllParts_53 : decode cX4_layAllParts 53 = .ok (.aload_n 0, 1) := by decide +kernel
theorem dX4_layAllParts_54 : decode cX4_layAllParts 54 = .ok (.getfield 16, 3) := by decide +kernel
theorem dX4_layAllParts_57 : decode cX4_layAllParts 57 = .ok (.iload_n 1, 1) := by decide +kernel
theorem dX4_layAllParts_58 : decode cX4_layAllParts 58 = .ok (.invokevirtual 63, 3) := by decide +kernel
theorem dX4_layAllParts_61 : decode cX4_layAllParts 61 = .ok (.checkcast 74, 3) := by decide +kernel
theorem dX4_layAllParts_64 : decode cX4_layAllParts 64 = .ok (.invokevirtual 217, 3) := by decide +kernel
theorem dX4_layAllParts_67 : decode cX4_layAllParts 67 = .ok (.iinc 1 1, 3) := by decide +kernel
theorem dX4_layAllParts_70 : decode cX4_layAllParts 70 = .ok (.goto (-29), 3) := by decide +kernel
theorem dX4_layAllParts_73 : decode cX4_layAllParts 73 = .ok (.return_, 1) := by decide +kernel
theorem dX4_lay_0 : decode cX4_lay 0 = .ok (.aload_n 0, 1) := by decide +kernel
theorem dX4_lay_1 : decode cX4_lay 1 = .ok (.aload_n 1, 1) := by decide +kernel
theorem dX4_lay_2 : decode cX4_lay 2 = .ok (.invokevirtual 221, 3) := by decide +kernel
theorem dX4_lay_5 : decode cX4_lay 5 = .ok (.astore_n 2, 1) := by decide +kernel
theorem dX4_lay_6 : decode cX4_lay 6 = .ok (.aload_n 2, 1) := by decide +kernel
theorem dX4_lay_7 : decode cX4_lay 7 = .ok (.ifnonnull 10, 3) := by decide +kernel
theorem dX4_lay_10 : decode cX4_lay 10 = .ok (.aload_n 0, 1) := by decide +kernel
theorem dX4_lay_11 : decode cX4_lay 11 = .ok (.aload_n 1, 1) := by decide +kernel
theorem dX4_lay_12 : decode cX4_lay 12 = .ok (.invokevirtual 225, 3) := by decide +kernel
theorem dX4_lay_15 : decode cX4_lay 15 = .ok (.aload_n 1, 1) := by decide +kernel
theorem dX4_lay_16 : decode cX4_lay 16 = .ok (.astore_n 2, 1) := by decide +kernel
theorem dX4_lay_17 : decode cX4_lay 17 = .ok (.aload_n 1, 1) := by decide +kernel
theorem dX4_lay_18 : decode cX4_lay 18 = .ok (.aload_n 2, 1) := by decide +kernel
theorem dX4_lay_19 : decode cX4_lay 19 = .ok (.getfield 120, 3) := by decide +kernel
theorem dX4_lay_22 : decode cX4_lay 22 = .ok (.putfield 120, 3) := by decide +kernel
theorem dX4_lay_25 : decode cX4_lay 25 = .ok (.aload_n 1, 1) := by decide +kernel
theorem dX4_lay_26 : decode cX4_lay 26 = .ok (.aload_n 2, 1) := by decide +kernel
theorem dX4_lay_27 : decode cX4_lay 27 = .ok (.getfield 228, 3) := by decide +kernel
theorem dX4_lay_30 : decode cX4_lay 30 = .ok (.putfield 123, 3) := by decide +kernel
theorem dX4_lay_33 : decode cX4_lay 33 = .ok (.aload_n 1, 1) := by decide +kernel
theorem dX4_lay_34 : decode cX4_lay 34 = .ok (.aload_n 2, 1) := by decide +kernel
theorem dX4_lay_35 : decode cX4_lay 35 = .ok (.getfield 126, 3) := by decide +kernel
theorem dX4_lay_38 : decode cX4_lay 38 = .ok (.putfield 126, 3) := by decide +kernel
theorem dX4_lay_41 : decode cX4_lay 41 = .ok (.aload_n 2, 1) := by decide +kernel
theorem dX4_lay_42 : decode cX4_lay 42 = .ok (.dup, 1) := by decide +kernel
theorem dX4_lay_43 : decode cX4_lay 43 = .ok (.getfield 228, 3) := by decide +kernel
theorem dX4_lay_46 : decode cX4_lay 46 = .ok (.aload_n 1, 1) := by decide +kernel
theorem dX4_lay_47 : decode cX4_lay 47 = .ok (.invokevirtual 231, 3) := by decide +kernel
theorem dX4_lay_50 : decode cX4_lay 50 = .ok (.iadd, 1) := by decide +kernel
theorem dX4_lay_51 : decode cX4_lay 51 = .ok (.putfield 228, 3) := by decide +kernel
theorem dX4_lay_54 : decode cX4_lay 54 = .ok (.return_, 1) := by decide +kernel
theorem dX4_firstOfShelfFor_0 : decode cX4_firstOfShelfFor 0 = .ok (.iconst 0, 1) := by decide +kernel
theorem dX4_firstOfShelfFor_1 : decode cX4_firstOfShelfFor 1 = .ok (.istore_n 2, 1) := by decide +kernel
theorem dX4_firstOfShelfFor_2 : decode cX4_firstOfShelfFor 2 = .ok (.iload_n 2, 1) := by decide +kernel
theorem dX4_firstOfShelfFor_3 : decode cX4_firstOfShelfFor 3 = .ok (.aload_n 0, 1) := by decide +kernel
theorem dX4_firstOfShelfFor_4 : decode cX4_firstOfShelfFor 4 = .ok (.getfield 117, 3) := by decide +kernel
theorem dX4_firstOfShelfFor_7 : decode cX4_firstOfShelfFor 7 = .ok (.if_icmp .ge 80, 3) := by decide +kernel
theorem dX4_firstOfShelfFor_10 : decode cX4_firstOfShelfFor 10 = .ok (.iconst 0, 1) := by decide +kernel
theorem dX4_firstOfShelfFor_11 : decode cX4_firstOfShelfFor 11 = .ok (.istore_n 3, 1) := by decide +kernel
theorem dX4_firstOfShelfFor_12 : decode cX4_firstOfShelfFor 12 = .ok (.iload_n 3, 1) := by decide +kernel
theorem dX4_firstOfShelfFor_13 : decode cX4_firstOfShelfFor 13 = .ok (.aload_n 0, 1) := by decide +kernel
theorem dX4_firstOfShelfFor_14 : decode cX4_firstOfShelfFor 14 = .ok (.getfield 16, 3) := by decide +kernel
theorem dX4_firstOfShelfFor_17 : decode cX4_firstOfShelfFor 17 = .ok (.invokevirtual 50, 3) := by decide +kernel
theorem dX4_firstOfShelfFor_20 : decode cX4_firstOfShelfFor 20 = .ok (.if_icmp .ge 61, 3) := by decide +kernel
theorem dX4_firstOfShelfFor_23 : decode cX4_firstOfShelfFor 23 = .ok (.aload_n 0, 1) := by decide +kernel
theorem dX4_firstOfShelfFor_24 : decode cX4_firstOfShelfFor 24 = .ok (.getfield 16, 3) := by decide +kernel
theorem dX4_firstOfShelfFor_27 : decode cX4_firstOfShelfFor 27 = .ok (.iload_n 3, 1) := by decide +kernel
theorem dX4_firstOfShelfFor_28 : decode cX4_firstOfShelfFor 28 = .ok (.invokevirtual 63, 3) := by decide +kernel
theorem dX4_firstOfShelfFor_31 : decode cX4_firstOfShelfFor 31 = .ok (.checkcast 74, 3) := by decide +kernel
theorem dX4_firstOfShelfFor_34 : decode cX4_firstOfShelfFor 34 = .ok (.astore 4, 2) := by decide +kernel
theorem dX4_firstOfShelfFor_36 : decode cX4_firstOfShelfFor 36 = .ok (.aload 4, 2) := by decide +kernel
theorem dX4_firstOfShelfFor_38 : decode cX4_firstOfShelfFor 38 = .ok (.getfield 120, 3) := by decide +kernel
theorem dX4_firstOfShelfFor_41 : decode cX4_firstOfShelfFor 41 = .ok (.iload_n 2, 1) := by decide +kernel
theorem dX4_firstOfShelfFor_42 : decode cX4_firstOfShelfFor 42 = .ok (.if_icmp .ne 33, 3) := by decide +kernel
theorem dX4_firstOfShelfFor_45 : decode cX4_firstOfShelfFor 45 = .ok (.aload 4, 2) := by decide +kernel
theorem dX4_firstOfShelfFor_47 : decode cX4_firstOfShelfFor 47 = .ok (.getfield 214, 3) := by decide +kernel
theorem dX4_firstOfShelfFor_50 : decode cX4_firstOfShelfFor 50 = .ok (.aload_n 1, 1) := by decide +kernel
theorem dX4_firstOfShelfFor_51 : decode cX4_firstOfShelfFor 51 = .ok (.invokevirtual 234, 3) := by decide +kernel
theorem dX4_firstOfShelfFor_54 : decode cX4_firstOfShelfFor 54 = .ok (.if_icmp .lt 21, 3) := by decide +kernel
theorem dX4_firstOfShelfFor_57 : decode cX4_firstOfShelfFor 57 = .ok (.bipush 40, 2) := by decide +kernel
theorem dX4_firstOfShelfFor_59 : decode cX4_firstOfShelfFor 59 = .ok (.aload 4, 2) := by decide +kernel
theorem dX4_firstOfShelfFor_61 : decode cX4_firstOfShelfFor 61 = .ok (.getfield 228, 3) := by decide +kernel
theorem dX4_firstOfShelfFor_64 : decode cX4_firstOfShelfFor 64 = .ok (.isub, 1) := by decide +kernel
theorem dX4_firstOfShelfFor_65 : decode cX4_firstOfShelfFor 65 = .ok (.aload_n 1, 1) := by decide +kernel
theorem dX4_firstOfShelfFor_66 : decode cX4_firstOfShelfFor 66 = .ok (.invokevirtual 231, 3) := by decide +kernel
theorem dX4_firstOfShelfFor_69 : decode cX4_firstOfShelfFor 69 = .ok (.if_icmp .lt 6, 3) := by decide +kernel
theorem dX4_firstOfShelfFor_72 : decode cX4_firstOfShelfFor 72 = .ok (.aload 4, 2) := by decide +kernel
theorem dX4_firstOfShelfFor_74 : decode cX4_firstOfShelfFor 74 = .ok (.areturn, 1) := by decide +kernel
theorem dX4_firstOfShelfFor_75 : decode cX4_firstOfShelfFor 75 = .ok (.iinc 3 1, 3) := by decide +kernel
theorem dX4_firstOfShelfFor_78 : decode cX4_firstOfShelfFor 78 = .ok (.goto (-66), 3) := by decide +kernel
theorem dX4_firstOfShelfFor_81 : decode cX4_firstOfShelfFor 81 = .ok (.iinc 2 1, 3) := by decide +kernel
theorem dX4_firstOfShelfFor_84 : decode cX4_firstOfShelfFor 84 = .ok (.goto (-82), 3) := by decide +kernel
theorem dX4_firstOfShelfFor_87 : decode cX4_firstOfShelfFor 87 = .ok (.aconst_null, 1) := by decide +kernel
theorem dX4_firstOfShelfFor_88 : decode cX4_firstOfShelfFor 88 = .ok (.areturn, 1) := by decide +kernel
theorem dX4_beginShelf_0 : decode cX4_beginShelf 0 = .ok (.aload_n 1, 1) := by decide +kernel
theorem dX4_beginShelf_1 : decode cX4_beginShelf 1 = .ok (.aload_n 0, 1) := by decide +kernel
theorem dX4_beginShelf_2 : decode cX4_beginShelf 2 = .ok (.aload_n 1, 1) := by decide +kernel
theorem dX4_beginShelf_3 : decode cX4_beginShelf 3 = .ok (.invokevirtual 234, 3) := by decide +kernel
theorem dX4_beginShelf_6 : decode cX4_beginShelf 6 = .ok (.invokevirtual 237, 3) := by decide +kernel
theorem dX4_beginShelf_9 : decode cX4_beginShelf 9 = .ok (.putfield 120, 3) := by decide +kernel
theorem dX4_beginShelf_12 : decode cX4_beginShelf 12 = .ok (.aload_n 1, 1) := by decide +kernel
theorem dX4_beginShelf_13 : decode cX4_beginShelf 13 = .ok (.aload_n 0, 1) := by decide +kernel
theorem dX4_beginShelf_14 : decode cX4_beginShelf 14 = .ok (.aload_n 1, 1) := by decide +kernel
theorem dX4_beginShelf_15 : decode cX4_beginShelf 15 = .ok (.getfield 120, 3) := by decide +kernel
theorem dX4_beginShelf_18 : decode cX4_beginShelf 18 = .ok (.invokevirtual 240, 3) := by decide +kernel
theorem dX4_beginShelf_21 : decode cX4_beginShelf 21 = .ok (.putfield 126, 3) := by decide +kernel
theorem dX4_beginShelf_24 : decode cX4_beginShelf 24 = .ok (.aload_n 1, 1) := by decide +kernel
theorem dX4_beginShelf_25 : decode cX4_beginShelf 25 = .ok (.aload_n 1, 1) := by decide +kernel
theorem dX4_beginShelf_26 : decode cX4_beginShelf 26 = .ok (.invokevirtual 234, 3) := by decide +kernel
theorem dX4_beginShelf_29 : decode cX4_beginShelf 29 = .ok (.putfield 214, 3) := by decide +kernel
theorem dX4_beginShelf_32 : decode cX4_beginShelf 32 = .ok (.aload_n 1, 1) := by decide +kernel
theorem dX4_beginShelf_33 : decode cX4_beginShelf 33 = .ok (.iconst 0, 1) := by decide +kernel
theorem dX4_beginShelf_34 : decode cX4_beginShelf 34 = .ok (.putfield 228, 3) := by decide +kernel
theorem dX4_beginShelf_37 : decode cX4_beginShelf 37 = .ok (.return_, 1) := by decide +kernel
theorem dX4_sheetForShelf_0 : decode cX4_sheetForShelf 0 = .ok (.iconst 0, 1) := by decide +kernel
theorem dX4_sheetForShelf_1 : decode cX4_sheetForShelf 1 = .ok (.istore_n 2, 1) := by decide +kernel
theorem dX4_sheetForShelf_2 : decode cX4_sheetForShelf 2 = .ok (.iload_n 2, 1) := by decide +kernel
theorem dX4_sheetForShelf_3 : decode cX4_sheetForShelf 3 = .ok (.aload_n 0, 1) := by decide +kernel
theorem dX4_sheetForShelf_4 : decode cX4_sheetForShelf 4 = .ok (.getfield 117, 3) := by decide +kernel
theorem dX4_sheetForShelf_7 : decode cX4_sheetForShelf 7 = .ok (.if_icmp .ge 23, 3) := by decide +kernel
theorem dX4_sheetForShelf_10 : decode cX4_sheetForShelf 10 = .ok (.bipush 30, 2) := by decide +kernel
theorem dX4_sheetForShelf_12 : decode cX4_sheetForShelf 12 = .ok (.aload_n 0, 1) := by decide +kernel
theorem dX4_sheetForShelf_13 : decode cX4_sheetForShelf 13 = .ok (.iload_n 2, 1) := by decide +kernel
theorem dX4_sheetForShelf_14 : decode cX4_sheetForShelf 14 = .ok (.invokevirtual 240, 3) := by decide +kernel
theorem dX4_sheetForShelf_17 : decode cX4_sheetForShelf 17 = .ok (.isub, 1) := by decide +kernel
theorem dX4_sheetForShelf_18 : decode cX4_sheetForShelf 18 = .ok (.iload_n 1, 1) := by decide +kernel
theorem dX4_sheetForShelf_19 : decode cX4_sheetForShelf 19 = .ok (.if_icmp .lt 5, 3) := by decide +kernel
theorem dX4_sheetForShelf_22 : decode cX4_sheetForShelf 22 = .ok (.iload_n 2, 1) := by decide +kernel
theorem dX4_sheetForShelf_23 : decode cX4_sheetForShelf 23 = .ok (.ireturn, 1) := by decide +kernel
theorem dX4_sheetForShelf_24 : decode cX4_sheetForShelf 24 = .ok (.iinc 2 1, 3) := by decide +kernel
theorem dX4_sheetForShelf_27 : decode cX4_sheetForShelf 27 = .ok (.goto (-25), 3) := by decide +kernel
theorem dX4_sheetForShelf_30 : decode cX4_sheetForShelf 30 = .ok (.aload_n 0, 1) := by decide +kernel
theorem dX4_sheetForShelf_31 : decode cX4_sheetForShelf 31 = .ok (.dup, 1) := by decide +kernel
theorem dX4_sheetForShelf_32 : decode cX4_sheetForShelf 32 = .ok (.getfield 117, 3) := by decide +kernel
theorem dX4_sheetForShelf_35 : decode cX4_sheetForShelf 35 = .ok (.iconst 1, 1) := by decide +kernel
theorem dX4_sheetForShelf_36 : decode cX4_sheetForShelf 36 = .ok (.iadd, 1) := by decide +kernel
theorem dX4_sheetForShelf_37 : decode cX4_sheetForShelf 37 = .ok (.putfield 117, 3) := by decide +kernel
theorem dX4_sheetForShelf_40 : decode cX4_sheetForShelf 40 = .ok (.aload_n 0, 1) := by decide +kernel
theorem dX4_sheetForShelf_41 : decode cX4_sheetForShelf 41 = .ok (.getfield 117, 3) := by decide +kernel
theorem dX4_sheetForShelf_44 : decode cX4_sheetForShelf 44 = .ok (.iconst 1, 1) := by decide +kernel
theorem dX4_sheetForShelf_45 : decode cX4_sheetForShelf 45 = .ok (.isub, 1) := by decide +kernel
theorem dX4_sheetForShelf_46 : decode cX4_sheetForShelf 46 = .ok (.ireturn, 1) := by decide +kernel
theorem dX4_filledHeight_0 : decode cX4_filledHeight 0 = .ok (.iconst 0, 1) := by decide +kernel
theorem dX4_filledHeight_1 : decode cX4_filledHeight 1 = .ok (.istore_n 2, 1) := by decide +kernel
theorem dX4_filledHeight_2 : decode cX4_filledHeight 2 = .ok (.iconst 0, 1) := by decide +kernel
theorem dX4_filledHeight_3 : decode cX4_filledHeight 3 = .ok (.istore_n 3, 1) := by decide +kernel
theorem dX4_filledHeight_4 : decode cX4_filledHeight 4 = .ok (.iload_n 3, 1) := by decide +kernel
theorem dX4_filledHeight_5 : decode cX4_filledHeight 5 = .ok (.aload_n 0, 1) := by decide +kernel
theorem dX4_filledHeight_6 : decode cX4_filledHeight 6 = .ok (.getfield 16, 3) := by decide +kernel
theorem dX4_filledHeight_9 : decode cX4_filledHeight 9 = .ok (.invokevirtual 50, 3) := by decide +kernel
theorem dX4_filledHeight_12 : decode cX4_filledHeight 12 = .ok (.if_icmp .ge 44, 3) := by decide +kernel
theorem dX4_filledHeight_15 : decode cX4_filledHeight 15 = .ok (.aload_n 0, 1) := by decide +kernel
theorem dX4_filledHeight_16 : decode cX4_filledHeight 16 = .ok (.getfield 16, 3) := by decide +kernel
theorem dX4_filledHeight_19 : decode cX4_filledHeight 19 = .ok (.iload_n 3, 1) := by decide +kernel
theorem dX4_filledHeight_20 : decode cX4_filledHeight 20 = .ok (.invokevirtual 63, 3) := by decide +kernel
theorem dX4_filledHeight_23 : decode cX4_filledHeight 23 = .ok (.checkcast 74, 3) := by decide +kernel
theorem dX4_filledHeight_26 : decode cX4_filledHeight 26 = .ok (.getfield 120, 3) := by decide +kernel
theorem dX4_filledHeight_29 : decode cX4_filledHeight 29 = .ok (.iload_n 1, 1) := by decide +kernel
theorem dX4_filledHeight_30 : decode cX4_filledHeight 30 = .ok (.if_icmp .ne 20, 3) := by decide +kernel
theorem dX4_filledHeight_33 : decode cX4_filledHeight 33 = .ok (.iload_n 2, 1) := by decide +kernel
theorem dX4_filledHeight_34 : decode cX4_filledHeight 34 = .ok (.aload_n 0, 1) := by decide +kernel
theorem dX4_filledHeight_35 : decode cX4_filledHeight 35 = .ok (.getfield 16, 3) := by decide +kernel
theorem dX4_filledHeight_38 : decode cX4_filledHeight 38 = .ok (.iload_n 3, 1) := by decide +kernel
theorem dX4_filledHeight_39 : decode cX4_filledHeight 39 = .ok (.invokevirtual 63, 3) := by decide +kernel
theorem dX4_filledHeight_42 : decode cX4_filledHeight 42 = .ok (.checkcast 74, 3) := by decide +kernel
theorem dX4_filledHeight_45 : decode cX4_filledHeight 45 = .ok (.getfield 214, 3) := by decide +kernel
theorem dX4_filledHeight_48 : decode cX4_filledHeight 48 = .ok (.iadd, 1) := by decide +kernel
theorem dX4_filledHeight_49 : decode cX4_filledHeight 49 = .ok (.istore_n 2, 1) := by decide +kernel
theorem dX4_filledHeight_50 : decode cX4_filledHeight 50 = .ok (.iinc 3 1, 3) := by decide +kernel
theorem dX4_filledHeight_53 : decode cX4_filledHeight 53 = .ok (.goto (-49), 3) := by decide +kernel
theorem dX4_filledHeight_56 : decode cX4_filledHeight 56 = .ok (.iload_n 2, 1) := by decide +kernel
theorem dX4_filledHeight_57 : decode cX4_filledHeight 57 = .ok (.ireturn, 1) := by decide +kernel
