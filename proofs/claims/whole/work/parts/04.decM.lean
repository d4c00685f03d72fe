theorem dX5_init_0 : decode cX5_init 0 = .ok (.aload_n 0, 1) := by decide +kernel
theorem dX5_init_1 : decode cX5_init 1 = .ok (.invokespecial 1, 3) := by decide +kernel
theorem dX5_init_4 : decode cX5_init 4 = .ok (.aload_n 0, 1) := by decide +kernel
theorem dX5_init_5 : decode cX5_init 5 = .ok (.bipush 12, 2) := by decide +kernel
theorem dX5_init_7 : decode cX5_init 7 = .ok (.newarray .int, 2) := by decide +kernel
theorem dX5_init_9 : decode cX5_init 9 = .ok (.putfield 7, 3) := by decide +kernel
theorem dX5_init_12 : decode cX5_init 12 = .ok (.aload_n 0, 1) := by decide +kernel
theorem dX5_init_13 : decode cX5_init 13 = .ok (.bipush 12, 2) := by decide +kernel
theorem dX5_init_15 : decode cX5_init 15 = .ok (.newarray .int, 2) := by decide +kernel
theorem dX5_init_17 : decode cX5_init 17 = .ok (.putfield 13, 3) := by decide +kernel
theorem dX5_init_20 : decode cX5_init 20 = .ok (.aload_n 0, 1) := by decide +kernel
theorem dX5_init_21 : decode cX5_init 21 = .ok (.bipush 12, 2) := by decide +kernel
theorem dX5_init_23 : decode cX5_init 23 = .ok (.newarray .int, 2) := by decide +kernel
theorem dX5_init_25 : decode cX5_init 25 = .ok (.putfield 16, 3) := by decide +kernel
theorem dX5_init_28 : decode cX5_init 28 = .ok (.aload_n 0, 1) := by decide +kernel
theorem dX5_init_29 : decode cX5_init 29 = .ok (.iconst 1, 1) := by decide +kernel
theorem dX5_init_30 : decode cX5_init 30 = .ok (.putfield 19, 3) := by decide +kernel
theorem dX5_init_33 : decode cX5_init 33 = .ok (.aload_n 0, 1) := by decide +kernel
theorem dX5_init_34 : decode cX5_init 34 = .ok (.bipush 16, 2) := by decide +kernel
theorem dX5_init_36 : decode cX5_init 36 = .ok (.newarray .int, 2) := by decide +kernel
theorem dX5_init_38 : decode cX5_init 38 = .ok (.putfield 23, 3) := by decide +kernel
theorem dX5_init_41 : decode cX5_init 41 = .ok (.aload_n 0, 1) := by decide +kernel
theorem dX5_init_42 : decode cX5_init 42 = .ok (.bipush 16, 2) := by decide +kernel
theorem dX5_init_44 : decode cX5_init 44 = .ok (.newarray .int, 2) := by decide +kernel
theorem dX5_init_46 : decode cX5_init 46 = .ok (.putfield 26, 3) := by decide +kernel
theorem dX5_init_49 : decode cX5_init 49 = .ok (.aload_n 0, 1) := by decide +kernel
theorem dX5_init_50 : decode cX5_init 50 = .ok (.bipush 16, 2) := by decide +kernel
theorem dX5_init_52 : decode cX5_init 52 = .ok (.newarray .int, 2) := by decide +kernel
theorem dX5_init_54 : decode cX5_init 54 = .ok (.putfield 29, 3) := by decide +kernel
theorem dX5_init_57 : decode cX5_init 57 = .ok (.aload_n 0, 1) := by decide +kernel
theorem dX5_init_58 : decode cX5_init 58 = .ok (.bipush 16, 2) := by decide +kernel
theorem dX5_init_60 : decode cX5_init 60 = .ok (.newarray .int, 2) := by decide +kernel
theorem dX5_init_62 : decode cX5_init 62 = .ok (.putfield 32, 3) := by decide +kernel
theorem dX5_init_65 : decode cX5_init 65 = .ok (.aload_n 0, 1) := by decide +kernel
theorem dX5_init_66 : decode cX5_init 66 = .ok (.bipush 16, 2) := by decide +kernel
theorem dX5_init_68 : decode cX5_init 68 = .ok (.newarray .int, 2) := by decide +kernel
theorem dX5_init_70 : decode cX5_init 70 = .ok (.putfield 35, 3) := by decide +kernel
theorem dX5_init_73 : decode cX5_init 73 = .ok (.aload_n 0, 1) := by decide +kernel
theorem dX5_init_74 : decode cX5_init 74 = .ok (.bipush 16, 2) := by decide +kernel
theorem dX5_init_76 : decode cX5_init 76 = .ok (.newarray .int, 2) := by decide +kernel
theorem dX5_init_78 : decode cX5_init 78 = .ok (.putfield 38, 3) := by decide +kernel
theorem dX5_init_81 : decode cX5_init 81 = .ok (.aload_n 0, 1) := by decide +kernel
theorem dX5_init_82 : decode cX5_init 82 = .ok (.bipush 16, 2) := by decide +kernel
theorem dX5_init_84 : decode cX5_init 84 = .ok (.newarray .int, 2) := by decide +kernel
theorem dX5_init_86 : decode cX5_init 86 = .ok (.putfield 41, 3) := by decide +kernel
theorem dX5_init_89 : decode cX5_init 89 = .ok (.aload_n 0, 1) := by decide +kernel
theorem dX5_init_90 : decode cX5_init 90 = .ok (.bipush 16, 2) := by decide +kernel
theorem dX5_init_92 : decode cX5_init 92 = .ok (.newarray .int, 2) := by decide +kernel
theorem dX5_init_94 : decode cX5_init 94 = .ok (.putfield 44, 3) := by decide +kernel
theorem dX5_init_97 : decode cX5_init 97 = .ok (.aload_n 0, 1) := by decide +kernel
theorem dX5_init_98 : decode cX5_init 98 = .ok (.bipush 16, 2) := by decide +kernel
theorem dX5_init_100 : decode cX5_init 100 = .ok (.newarray .int, 2) := by decide +kernel
theorem dX5_init_102 : decode cX5_init 102 = .ok (.putfield 47, 3) := by decide +kernel
theorem dX5_init_105 : decode cX5_init 105 = .ok (.aload_n 0, 1) := by decide +kernel
theorem dX5_init_106 : decode cX5_init 106 = .ok (.bipush 16, 2) := by decide +kernel
theorem dX5_init_108 : decode cX5_init 108 = .ok (.newarray .int, 2) := by decide +kernel
theorem dX5_init_110 : decode cX5_init 110 = .ok (.putfield 50, 3) := by decide +kernel
theorem dX5_init_113 : decode cX5_init 113 = .ok (.aload_n 0, 1) := by decide +kernel
theorem dX5_init_114 : decode cX5_init 114 = .ok (.bipush 16, 2) := by decide +kernel
theorem dX5_init_116 : decode cX5_init 116 = .ok (.newarray .int, 2) := by decide +kernel
theorem dX5_init_118 : decode cX5_init 118 = .ok (.putfield 53, 3) := by decide +kernel
theorem dX5_init_121 : decode cX5_init 121 = .ok (.aload_n 0, 1) := by decide +kernel
theorem dX5_init_122 : decode cX5_init 122 = .ok (.bipush 16, 2) := by decide +kernel
theorem dX5_init_124 : decode cX5_init 124 = .ok (.newarray .int, 2) := by decide +kernel
theorem dX5_init_126 : decode cX5_init 126 = .ok (.putfield 56, 3) := by decide +kernel
theorem dX5_init_129 : decode cX5_init 129 = .ok (.aload_n 0, 1) := by decide +kernel
theorem dX5_init_130 : decode cX5_init 130 = .ok (.bipush 16, 2) := by decide +kernel
theorem dX5_init_132 : decode cX5_init 132 = .ok (.newarray .int, 2) := by decide +kernel
theorem dX5_init_134 : decode cX5_init 134 = .ok (.putfield 59, 3) := by decide +kernel
theorem dX5_init_137 : decode cX5_init 137 = .ok (.aload_n 0, 1) := by decide +kernel
theorem dX5_init_138 : decode cX5_init 138 = .ok (.bipush 16, 2) := by decide +kernel
theorem dX5_init_140 : decode cX5_init 140 = .ok (.newarray .int, 2) := by decide +kernel
theorem dX5_init_142 : decode cX5_init 142 = .ok (.putfield 62, 3) := by decide +kernel
theorem dX5_init_145 : decode cX5_init 145 = .ok (.aload_n 0, 1) := by decide +kernel
theorem dX5_init_146 : decode cX5_init 146 = .ok (.bipush 16, 2) := by decide +kernel
theorem dX5_init_148 : decode cX5_init 148 = .ok (.newarray .int, 2) := by decide +kernel
theorem dX5_init_150 : decode cX5_init 150 = .ok (.putfield 65, 3) := by decide +kernel
theorem dX5_init_153 : decode cX5_init 153 = .ok (.aload_n 0, 1) := by decide +kernel
theorem dX5_init_154 : decode cX5_init 154 = .ok (.bipush 12, 2) := by decide +kernel
theorem dX5_init_156 : decode cX5_init 156 = .ok (.newarray .int, 2) := by decide +kernel
theorem dX5_init_158 : decode cX5_init 158 = .ok (.putfield 68, 3) := by decide +kernel
theorem dX5_init_161 : decode cX5_init 161 = .ok (.return_, 1) := by decide +kernel
theorem dX5_thrown_0 : decode cX5_thrown 0 = .ok (.aload_n 0, 1) := by decide +kernel
theorem dX5_thrown_1 : decode cX5_thrown 1 = .ok (.getfield 71, 3) := by decide +kernel
theorem dX5_thrown_4 : decode cX5_thrown 4 = .ok (.ireturn, 1) := by decide +kernel
theorem dX5_holds_0 : decode cX5_holds 0 = .ok (.aload_n 0, 1) := by decide +kernel
theorem dX5_holds_1 : decode cX5_holds 1 = .ok (.iload_n 1, 1) := by decide +kernel
theorem dX5_holds_2 : decode cX5_holds 2 = .ok (.putfield 71, 3) := by decide +kernel
theorem dX5_holds_5 : decode cX5_holds 5 = .ok (.iload_n 1, 1) := by decide +kernel
theorem dX5_holds_6 : decode cX5_holds 6 = .ok (.ifCond .le 7, 3) := by decide +kernel
theorem dX5_holds_9 : decode cX5_holds 9 = .ok (.iconst 1, 1) := by decide +kernel
theorem dX5_holds_10 : decode cX5_holds 10 = .ok (.goto 4, 3) := by decide +kernel
theorem dX5_holds_13 : decode cX5_holds 13 = .ok (.iconst 0, 1) := by decide +kernel
theorem dX5_holds_14 : decode cX5_holds 14 = .ok (.ireturn, 1) := by decide +kernel
theorem dX5_in_0 : decode cX5_in 0 = .ok (.iload_n 1, 1) := by decide +kernel
theorem dX5_in_1 : decode cX5_in 1 = .ok (.iload_n 2, 1) := by decide +kernel
theorem dX5_in_2 : decode cX5_in 2 = .ok (.if_icmp .lt 12, 3) := by decide +kernel
theorem dX5_in_5 : decode cX5_in 5 = .ok (.iload_n 1, 1) := by decide +kernel
theorem dX5_in_6 : decode cX5_in 6 = .ok (.iload_n 3, 1) := by decide +kernel
theorem dX5_in_7 : decode cX5_in 7 = .ok (.if_icmp .gt 7, 3) := by decide +kernel
theorem dX5_in_10 : decode cX5_in 10 = .ok (.iconst 1, 1) := by decide +kernel
theorem dX5_in_11 : decode cX5_in 11 = .ok (.goto 4, 3) := by decide +kernel
theorem dX5_in_14 : decode cX5_in 14 = .ok (.iconst 0, 1) := by decide +kernel
theorem dX5_in_15 : decode cX5_in 15 = .ok (.ireturn, 1) := by decide +kernel
theorem dX5_isFold_0 : decode cX5_isFold 0 = .ok (.aload_n 0, 1) := by decide +kernel
theorem dX5_isFold_1 : decode cX5_isFold 1 = .ok (.iload_n 1, 1) := by decide +kernel
theorem dX5_isFold_2 : decode cX5_isFold 2 = .ok (.iconst 0, 1) := by decide +kernel
theorem dX5_isFold_3 : decode cX5_isFold 3 = .ok (.aload_n 0, 1) := by decide +kernel
theorem dX5_isFold_4 : decode cX5_isFold 4 = .ok (.getfield 19, 3) := by decide +kernel
theorem dX5_isFold_7 : decode cX5_isFold 7 = .ok (.iconst 1, 1) := by decide +kernel
theorem dX5_isFold_8 : decode cX5_isFold 8 = .ok (.isub, 1) := by decide +kernel
theorem dX5_isFold_9 : decode cX5_isFold 9 = .ok (.invokevirtual 74, 3) := by decide +kernel
theorem dX5_isFold_12 : decode cX5_isFold 12 = .ok (.ireturn, 1) := by decide +kernel
theorem dX5_isPart_0 : decode cX5_isPart 0 = .ok (.aload_n 0, 1) := by decide +kernel
theorem dX5_isPart_1 : decode cX5_isPart 1 = .ok (.iload_n 1, 1) := by decide +kernel
theorem dX5_isPart_2 : decode cX5_isPart 2 = .ok (.iconst 0, 1) := by decide +kernel
theorem dX5_isPart_3 : decode cX5_isPart 3 = .ok (.aload_n 0, 1) := by decide +kernel
theorem dX5_isPart_4 : decode cX5_isPart 4 = .ok (.getfield 78, 3) := by decide +kernel
theorem dX5_isPart_7 : decode cX5_isPart 7 = .ok (.iconst 1, 1) := by decide +kernel
theorem dX5_isPart_8 : decode cX5_isPart 8 = .ok (.isub, 1) := by decide +kernel
theorem dX5_isPart_9 : decode cX5_isPart 9 = .ok (.invokevirtual 74, 3) := by decide +kernel
theorem dX5_isPart_12 : decode cX5_isPart 12 = .ok (.ireturn, 1) := by decide +kernel
theorem dX5_down_0 : decode cX5_down 0 = .ok (.iload_n 1, 1) := by decide +kernel
theorem dX5_down_1 : decode cX5_down 1 = .ok (.ifCond .ge 14, 3) := by decide +kernel
theorem dX5_down_4 : decode cX5_down 4 = .ok (.iload_n 2, 1) := by decide +kernel
theorem dX5_down_5 : decode cX5_down 5 = .ok (.iconst 1, 1) := by decide +kernel
theorem dX5_down_6 : decode cX5_down 6 = .ok (.isub, 1) := by decide +kernel
theorem dX5_down_7 : decode cX5_down 7 = .ok (.iload_n 1, 1) := by decide +kernel
theorem dX5_down_8 : decode cX5_down 8 = .ok (.isub, 1) := by decide +kernel
theorem dX5_down_9 : decode cX5_down 9 = .ok (.iload_n 2, 1) := by decide +kernel
theorem dX5_down_10 : decode cX5_down 10 = .ok (.idiv, 1) := by decide +kernel
theorem dX5_down_11 : decode cX5_down 11 = .ok (.ineg, 1) := by decide +kernel
theorem dX5_down_12 : decode cX5_down 12 = .ok (.goto 6, 3) := by decide +kernel
theorem dX5_down_15 : decode cX5_down 15 = .ok (.iload_n 1, 1) := by decide +kernel
theorem dX5_down_16 : decode cX5_down 16 = .ok (.iload_n 2, 1) := by decide +kernel
theorem dX5_down_17 : decode cX5_down 17 = .ok (.idiv, 1) := by decide +kernel
theorem dX5_down_18 : decode cX5_down 18 = .ok (.ireturn, 1) := by decide +kernel
theorem dX5_angleOf_0 : decode cX5_angleOf 0 = .ok (.iconst 0, 1) := by decide +kernel
theorem dX5_angleOf_1 : decode cX5_angleOf 1 = .ok (.istore_n 3, 1) := by decide +kernel
theorem dX5_angleOf_2 : decode cX5_angleOf 2 = .ok (.iload_n 1, 1) := by decide +kernel
theorem dX5_angleOf_3 : decode cX5_angleOf 3 = .ok (.istore 4, 2) := by decide +kernel
theorem dX5_angleOf_5 : decode cX5_angleOf 5 = .ok (.iload 4, 2) := by decide +kernel
theorem dX5_angleOf_7 : decode cX5_angleOf 7 = .ok (.ifCond .le 26, 3) := by decide +kernel
theorem dX5_angleOf_10 : decode cX5_angleOf 10 = .ok (.aload_n 0, 1) := by decide +kernel
theorem dX5_angleOf_11 : decode cX5_angleOf 11 = .ok (.getfield 68, 3) := by decide +kernel
theorem dX5_angleOf_14 : decode cX5_angleOf 14 = .ok (.iload_n 3, 1) := by decide +kernel
theorem dX5_angleOf_15 : decode cX5_angleOf 15 = .ok (.iload 4, 2) := by decide +kernel
theorem dX5_angleOf_17 : decode cX5_angleOf 17 = .ok (.iastore, 1) := by decide +kernel
theorem dX5_angleOf_18 : decode cX5_angleOf 18 = .ok (.iinc 3 1, 3) := by decide +kernel
theorem dX5_angleOf_21 : decode cX5_angleOf 21 = .ok (.aload_n 0, 1) := by decide +kernel
theorem dX5_angleOf_22 : decode cX5_angleOf 22 = .ok (.getfield 7, 3) := by decide +kernel
theorem dX5_angleOf_25 : decode cX5_angleOf 25 = .ok (.iload 4, 2) := by decide +kernel
theorem dX5_angleOf_27 : decode cX5_angleOf 27 = .ok (.iaload, 1) := by decide +kernel
theorem dX5_angleOf_28 : decode cX5_angleOf 28 = .ok (.istore 4, 2) := by decide +kernel
theorem dX5_angleOf_30 : decode cX5_angleOf 30 = .ok (.goto (-25), 3) := by decide +kernel
theorem dX5_angleOf_33 : decode cX5_angleOf 33 = .ok (.iload_n 2, 1) := by decide +kernel
theorem dX5_angleOf_34 : decode cX5_angleOf 34 = .ok (.istore 4, 2) := by decide +kernel
theorem dX5_angleOf_36 : decode cX5_angleOf 36 = .ok (.iload_n 3, 1) := by decide +kernel
theorem dX5_angleOf_37 : decode cX5_angleOf 37 = .ok (.iconst 1, 1) := by decide +kernel
theorem dX5_angleOf_38 : decode cX5_angleOf 38 = .ok (.isub, 1) := by decide +kernel
theorem dX5_angleOf_39 : decode cX5_angleOf 39 = .ok (.istore 5, 2) := by decide +kernel
theorem dX5_angleOf_41 : decode cX5_angleOf 41 = .ok (.iload 5, 2) := by decide +kernel
theorem dX5_angleOf_43 : decode cX5_angleOf 43 = .ok (.ifCond .lt 71, 3) := by decide +kernel
theorem dX5_angleOf_46 : decode cX5_angleOf 46 = .ok (.aload_n 0, 1) := by decide +kernel
theorem dX5_angleOf_47 : decode cX5_angleOf 47 = .ok (.iload 4, 2) := by decide +kernel
theorem dX5_angleOf_49 : decode cX5_angleOf 49 = .ok (.aload_n 0, 1) := by decide +kernel
theorem dX5_angleOf_50 : decode cX5_angleOf 50 = .ok (.getfield 13, 3) := by decide +kernel
theorem dX5_angleOf_53 : decode cX5_angleOf 53 = .ok (.aload_n 0, 1) := by decide +kernel
theorem dX5_angleOf_54 : decode cX5_angleOf 54 = .ok (.getfield 68, 3) := by decide +kernel
theorem dX5_angleOf_57 : decode cX5_angleOf 57 = .ok (.iload 5, 2) := by decide +kernel
theorem dX5_angleOf_59 : decode cX5_angleOf 59 = .ok (.iaload, 1) := by decide +kernel
theorem dX5_angleOf_60 : decode cX5_angleOf 60 = .ok (.iaload, 1) := by decide +kernel
theorem dX5_angleOf_61 : decode cX5_angleOf 61 = .ok (.imul, 1) := by decide +kernel
theorem dX5_angleOf_62 : decode cX5_angleOf 62 = .ok (.iconst 4, 1) := by decide +kernel
theorem dX5_angleOf_63 : decode cX5_angleOf 63 = .ok (.invokevirtual 81, 3) := by decide +kernel
theorem dX5_angleOf_66 : decode cX5_angleOf 66 = .ok (.aload_n 0, 1) := by decide +kernel
theorem dX5_angleOf_67 : decode cX5_angleOf 67 = .ok (.getfield 16, 3) := by decide +kernel
theorem dX5_angleOf_70 : decode cX5_angleOf 70 = .ok (.aload_n 0, 1) := by decide +kernel
theorem dX5_angleOf_71 : decode cX5_angleOf 71 = .ok (.getfield 68, 3) := by decide +kernel
theorem dX5_angleOf_74 : decode cX5_angleOf 74 = .ok (.iload 5, 2) := by decide +kernel
theorem dX5_angleOf_76 : decode cX5_angleOf 76 = .ok (.iaload, 1) := by decide +kernel
theorem dX5_angleOf_77 : decode cX5_angleOf 77 = .ok (.iaload, 1) := by decide +kernel
theorem dX5_angleOf_78 : decode cX5_angleOf 78 = .ok (.iadd, 1) := by decide +kernel
theorem dX5_angleOf_79 : decode cX5_angleOf 79 = .ok (.istore 4, 2) := by decide +kernel
theorem dX5_angleOf_81 : decode cX5_angleOf 81 = .ok (.iload 4, 2) := by decide +kernel
theorem dX5_angleOf_83 : decode cX5_angleOf 83 = .ok (.ifCond .ge 7, 3) := by decide +kernel
theorem dX5_angleOf_86 : decode cX5_angleOf 86 = .ok (.iconst 0, 1) := by decide +kernel
theorem dX5_angleOf_87 : decode cX5_angleOf 87 = .ok (.goto 19, 3) := by decide +kernel
theorem dX5_angleOf_90 : decode cX5_angleOf 90 = .ok (.iload 4, 2) := by decide +kernel
theorem dX5_angleOf_92 : decode cX5_angleOf 92 = .ok (.sipush 180, 3) := by decide +kernel
theorem dX5_angleOf_95 : decode cX5_angleOf 95 = .ok (.if_icmp .le 9, 3) := by decide +kernel
theorem dX5_angleOf_98 : decode cX5_angleOf 98 = .ok (.sipush 180, 3) := by decide +kernel
theorem dX5_angleOf_101 : decode cX5_angleOf 101 = .ok (.goto 5, 3) := by decide +kernel
theorem dX5_angleOf_104 : decode cX5_angleOf 104 = .ok (.iload 4, 2) := by decide +kernel
theorem dX5_angleOf_106 : decode cX5_angleOf 106 = .ok (.istore 4, 2) := by decide +kernel
theorem dX5_angleOf_108 : decode cX5_angleOf 108 = .ok (.iinc 5 (-1), 3) := by decide +kernel
theorem dX5_angleOf_111 : decode cX5_angleOf 111 = .ok (.goto (-70), 3) := by decide +kernel
theorem dX5_angleOf_114 : decode cX5_angleOf 114 = .ok (.iload 4, 2) := by decide +kernel
theorem dX5_angleOf_116 : decode cX5_angleOf 116 = .ok (.ireturn, 1) := by decide +kernel
theorem dX5_bound_0 : decode cX5_bound 0 = .ok (.aload_n 0, 1) := by decide +kernel
theorem dX5_bound_1 : decode cX5_bound 1 = .ok (.getfield 78, 3) := by decide +kernel
theorem dX5_bound_4 : decode cX5_bound 4 = .ok (.ifCond .le 25, 3) := by decide +kernel
theorem dX5_bound_7 : decode cX5_bound 7 = .ok (.aload_n 0, 1) := by decide +kernel
theorem dX5_bound_8 : decode cX5_bound 8 = .ok (.getfield 85, 3) := by decide +kernel
theorem dX5_bound_11 : decode cX5_bound 11 = .ok (.aload_n 0, 1) := by decide +kernel
theorem dX5_bound_12 : decode cX5_bound 12 = .ok (.getfield 78, 3) := by decide +kernel
theorem dX5_bound_15 : decode cX5_bound 15 = .ok (.if_icmp .ne 14, 3) := by decide +kernel
theorem dX5_bound_18 : decode cX5_bound 18 = .ok (.aload_n 0, 1) := by decide +kernel
theorem dX5_bound_19 : decode cX5_bound 19 = .ok (.invokevirtual 88, 3) := by decide +kernel
theorem dX5_bound_22 : decode cX5_bound 22 = .ok (.ifCond .ge 7, 3) := by decide +kernel
theorem dX5_bound_25 : decode cX5_bound 25 = .ok (.iconst 1, 1) := by decide +kernel
theorem dX5_bound_26 : decode cX5_bound 26 = .ok (.goto 4, 3) := by decide +kernel
theorem dX5_bound_29 : decode cX5_bound 29 = .ok (.iconst 0, 1) := by decide +kernel
theorem dX5_bound_30 : decode cX5_bound 30 = .ok (.ireturn, 1) := by decide +kernel
theorem dX5_fold_0 : decode cX5_fold 0 = .ok (.aload_n 0, 1) := by decide +kernel
theorem dX5_fold_1 : decode cX5_fold 1 = .ok (.iload_n 2, 1) := by decide +kernel
theorem dX5_fold_2 : decode cX5_fold 2 = .ok (.iconst 1, 1) := by decide +kernel
theorem dX5_fold_3 : decode cX5_fold 3 = .ok (.bipush 8, 2) := by decide +kernel
theorem dX5_fold_5 : decode cX5_fold 5 = .ok (.invokevirtual 74, 3) := by decide +kernel
theorem dX5_fold_8 : decode cX5_fold 8 = .ok (.ifCond .eq 19, 3) := by decide +kernel
theorem dX5_fold_11 : decode cX5_fold 11 = .ok (.aload_n 0, 1) := by decide +kernel
theorem dX5_fold_12 : decode cX5_fold 12 = .ok (.iload_n 3, 1) := by decide +kernel
theorem dX5_fold_13 : decode cX5_fold 13 = .ok (.bipush (-90), 2) := by decide +kernel
theorem dX5_fold_15 : decode cX5_fold 15 = .ok (.bipush 90, 2) := by decide +kernel
theorem dX5_fold_17 : decode cX5_fold 17 = .ok (.invokevirtual 74, 3) := by decide +kernel
theorem dX5_fold_20 : decode cX5_fold 20 = .ok (.ifCond .eq 7, 3) := by decide +kernel
theorem dX5_fold_23 : decode cX5_fold 23 = .ok (.iconst 1, 1) := by decide +kernel
theorem dX5_fold_24 : decode cX5_fold 24 = .ok (.goto 4, 3) := by decide +kernel
theorem dX5_fold_27 : decode cX5_fold 27 = .ok (.iconst 0, 1) := by decide +kernel
theorem dX5_fold_28 : decode cX5_fold 28 = .ok (.istore 4, 2) := by decide +kernel
theorem dX5_fold_30 : decode cX5_fold 30 = .ok (.aload_n 0, 1) := by decide +kernel
theorem dX5_fold_31 : decode cX5_fold 31 = .ok (.aload_n 0, 1) := by decide +kernel
theorem dX5_fold_32 : decode cX5_fold 32 = .ok (.iload_n 1, 1) := by decide +kernel
theorem dX5_fold_33 : decode cX5_fold 33 = .ok (.invokevirtual 92, 3) := by decide +kernel
theorem dX5_fold_36 : decode cX5_fold 36 = .ok (.ifCond .ne 7, 3) := by decide +kernel
theorem dX5_fold_39 : decode cX5_fold 39 = .ok (.iconst 1, 1) := by decide +kernel
theorem dX5_fold_40 : decode cX5_fold 40 = .ok (.goto 33, 3) := by decide +kernel
theorem dX5_fold_43 : decode cX5_fold 43 = .ok (.iload 4, 2) := by decide +kernel
theorem dX5_fold_45 : decode cX5_fold 45 = .ok (.ifCond .ne 7, 3) := by decide +kernel
theorem dX5_fold_48 : decode cX5_fold 48 = .ok (.iconst 2, 1) := by decide +kernel
theorem dX5_fold_49 : decode cX5_fold 49 = .ok (.goto 24, 3) := by decide +kernel
theorem dX5_fold_52 : decode cX5_fold 52 = .ok (.aload_n 0, 1) := by decide +kernel
theorem dX5_fold_53 : decode cX5_fold 53 = .ok (.getfield 19, 3) := by decide +kernel
theorem dX5_fold_56 : decode cX5_fold 56 = .ok (.bipush 12, 2) := by decide +kernel
theorem dX5_fold_58 : decode cX5_fold 58 = .ok (.if_icmp .eq 10, 3) := by decide +kernel
theorem dX5_fold_61 : decode cX5_fold 61 = .ok (.aload_n 0, 1) := by decide +kernel
theorem dX5_fold_62 : decode cX5_fold 62 = .ok (.invokevirtual 96, 3) := by decide +kernel
theorem dX5_fold_65 : decode cX5_fold 65 = .ok (.ifCond .eq 7, 3) := by decide +kernel
theorem dX5_fold_68 : decode cX5_fold 68 = .ok (.iconst 3, 1) := by decide +kernel
theorem dX5_fold_69 : decode cX5_fold 69 = .ok (.goto 4, 3) := by decide +kernel
theorem dX5_fold_72 : decode cX5_fold 72 = .ok (.iconst 0, 1) := by decide +kernel
theorem dX5_fold_73 : decode cX5_fold 73 = .ok (.invokevirtual 100, 3) := by decide +kernel
theorem dX5_fold_76 : decode cX5_fold 76 = .ok (.ifCond .eq 5, 3) := by decide +kernel
theorem dX5_fold_79 : decode cX5_fold 79 = .ok (.iconst (-1), 1) := by decide +kernel
theorem dX5_fold_80 : decode cX5_fold 80 = .ok (.ireturn, 1) := by decide +kernel
theorem dX5_fold_81 : decode cX5_fold 81 = .ok (.aload_n 0, 1) := by decide +kernel
theorem dX5_fold_82 : decode cX5_fold 82 = .ok (.getfield 7, 3) := by decide +kernel
theorem dX5_fold_85 : decode cX5_fold 85 = .ok (.aload_n 0, 1) := by decide +kernel
theorem dX5_fold_86 : decode cX5_fold 86 = .ok (.getfield 19, 3) := by decide +kernel
theorem dX5_fold_89 : decode cX5_fold 89 = .ok (.iload_n 1, 1) := by decide +kernel
theorem dX5_fold_90 : decode cX5_fold 90 = .ok (.iastore, 1) := by decide +kernel
theorem dX5_fold_91 : decode cX5_fold 91 = .ok (.aload_n 0, 1) := by decide +kernel
theorem dX5_fold_92 : decode cX5_fold 92 = .ok (.getfield 13, 3) := by decide +kernel
theorem dX5_fold_95 : decode cX5_fold 95 = .ok (.aload_n 0, 1) := by decide +kernel
theorem dX5_fold_96 : decode cX5_fold 96 = .ok (.getfield 19, 3) := by decide +kernel
theorem dX5_fold_99 : decode cX5_fold 99 = .ok (.iload_n 2, 1) := by decide +kernel
theorem dX5_fold_100 : decode cX5_fold 100 = .ok (.iastore, 1) := by decide +kernel
theorem dX5_fold_101 : decode cX5_fold 101 = .ok (.aload_n 0, 1) := by decide +kernel
theorem dX5_fold_102 : decode cX5_fold 102 = .ok (.getfield 16, 3) := by decide +kernel
theorem dX5_fold_105 : decode cX5_fold 105 = .ok (.aload_n 0, 1) := by decide +kernel
theorem dX5_fold_106 : decode cX5_fold 106 = .ok (.getfield 19, 3) := by decide +kernel
theorem dX5_fold_109 : decode cX5_fold 109 = .ok (.iload_n 3, 1) := by decide +kernel
theorem dX5_fold_110 : decode cX5_fold 110 = .ok (.iastore, 1) := by decide +kernel
theorem dX5_fold_111 : decode cX5_fold 111 = .ok (.aload_n 0, 1) := by decide +kernel
theorem dX5_fold_112 : decode cX5_fold 112 = .ok (.dup, 1) := by decide +kernel
theorem dX5_fold_113 : decode cX5_fold 113 = .ok (.getfield 19, 3) := by decide +kernel
theorem dX5_fold_116 : decode cX5_fold 116 = .ok (.iconst 1, 1) := by decide +kernel
theorem dX5_fold_117 : decode cX5_fold 117 = .ok (.iadd, 1) := by decide +kernel
theorem dX5_fold_118 : decode cX5_fold 118 = .ok (.putfield 19, 3) := by decide +kernel
theorem dX5_fold_121 : decode cX5_fold 121 = .ok (.aload_n 0, 1) := by decide +kernel
theorem dX5_fold_122 : decode cX5_fold 122 = .ok (.getfield 19, 3) := by decide +kernel
theorem dX5_fold_125 : decode cX5_fold 125 = .ok (.iconst 1, 1) := by decide +kernel
theorem dX5_fold_126 : decode cX5_fold 126 = .ok (.isub, 1) := by decide +kernel
theorem dX5_fold_127 : decode cX5_fold 127 = .ok (.ireturn, 1) := by decide +kernel
theorem dX5_part_0 : decode cX5_part 0 = .ok (.aload_n 0, 1) := by decide +kernel
theorem dX5_part_1 : decode cX5_part 1 = .ok (.iload_n 2, 1) := by decide +kernel
theorem dX5_part_2 : decode cX5_part 2 = .ok (.iconst 0, 1) := by decide +kernel
theorem dX5_part_3 : decode cX5_part 3 = .ok (.bipush 60, 2) := by decide +kernel
theorem dX5_part_5 : decode cX5_part 5 = .ok (.invokevirtual 74, 3) := by decide +kernel
theorem dX5_part_8 : decode cX5_part 8 = .ok (.ifCond .eq 42, 3) := by decide +kernel
theorem dX5_part_11 : decode cX5_part 11 = .ok (.aload_n 0, 1) := by decide +kernel
theorem dX5_part_12 : decode cX5_part 12 = .ok (.iload_n 3, 1) := by decide +kernel
theorem dX5_part_13 : decode cX5_part 13 = .ok (.iconst 1, 1) := by decide +kernel
theorem dX5_part_14 : decode cX5_part 14 = .ok (.bipush 30, 2) := by decide +kernel
theorem dX5_part_16 : decode cX5_part 16 = .ok (.invokevirtual 74, 3) := by decide +kernel
theorem dX5_part_19 : decode cX5_part 19 = .ok (.ifCond .eq 31, 3) := by decide +kernel
theorem dX5_part_22 : decode cX5_part 22 = .ok (.aload_n 0, 1) := by decide +kernel
theorem dX5_part_23 : decode cX5_part 23 = .ok (.iload 4, 2) := by decide +kernel
theorem dX5_part_25 : decode cX5_part 25 = .ok (.iconst 0, 1) := by decide +kernel
theorem dX5_part_26 : decode cX5_part 26 = .ok (.bipush 20, 2) := by decide +kernel
theorem dX5_part_28 : decode cX5_part 28 = .ok (.invokevirtual 74, 3) := by decide +kernel
theorem dX5_part_31 : decode cX5_part 31 = .ok (.ifCond .eq 19, 3) := by decide +kernel
theorem dX5_part_34 : decode cX5_part 34 = .ok (.aload_n 0, 1) := by decide +kernel
theorem dX5_part_35 : decode cX5_part 35 = .ok (.iload 5, 2) := by decide +kernel
theorem dX5_part_37 : decode cX5_part 37 = .ok (.iconst 1, 1) := by decide +kernel
theorem dX5_part_38 : decode cX5_part 38 = .ok (.bipush 10, 2) := by decide +kernel
theorem dX5_part_40 : decode cX5_part 40 = .ok (.invokevirtual 74, 3) := by decide +kernel
theorem dX5_part_43 : decode cX5_part 43 = .ok (.ifCond .eq 7, 3) := by decide +kernel
theorem dX5_part_46 : decode cX5_part 46 = .ok (.iconst 1, 1) := by decide +kernel
theorem dX5_part_47 : decode cX5_part 47 = .ok (.goto 4, 3) := by decide +kernel
theorem dX5_part_50 : decode cX5_part 50 = .ok (.iconst 0, 1) := by decide +kernel
theorem dX5_part_51 : decode cX5_part 51 = .ok (.istore 7, 2) := by decide +kernel
theorem dX5_part_53 : decode cX5_part 53 = .ok (.aload_n 0, 1) := by decide +kernel
theorem dX5_part_54 : decode cX5_part 54 = .ok (.aload_n 0, 1) := by decide +kernel
theorem dX5_part_55 : decode cX5_part 55 = .ok (.iload_n 1, 1) := by decide +kernel
theorem dX5_part_56 : decode cX5_part 56 = .ok (.invokevirtual 92, 3) := by decide +kernel
theorem dX5_part_59 : decode cX5_part 59 = .ok (.ifCond .ne 7, 3) := by decide +kernel
theorem dX5_part_62 : decode cX5_part 62 = .ok (.iconst 1, 1) := by decide +kernel
theorem dX5_part_63 : decode cX5_part 63 = .ok (.goto 33, 3) := by decide +kernel
theorem dX5_part_66 : decode cX5_part 66 = .ok (.iload 7, 2) := by decide +kernel
theorem dX5_part_68 : decode cX5_part 68 = .ok (.ifCond .ne 7, 3) := by decide +kernel
theorem dX5_part_71 : decode cX5_part 71 = .ok (.iconst 2, 1) := by decide +kernel
theorem dX5_part_72 : decode cX5_part 72 = .ok (.goto 24, 3) := by decide +kernel
theorem dX5_part_75 : decode cX5_part 75 = .ok (.aload_n 0, 1) := by decide +kernel
theorem dX5_part_76 : decode cX5_part 76 = .ok (.getfield 78, 3) := by decide +kernel
theorem dX5_part_79 : decode cX5_part 79 = .ok (.bipush 16, 2) := by decide +kernel
theorem dX5_part_81 : decode cX5_part 81 = .ok (.if_icmp .eq 10, 3) := by decide +kernel
theorem dX5_part_84 : decode cX5_part 84 = .ok (.aload_n 0, 1) := by decide +kernel
theorem dX5_part_85 : decode cX5_part 85 = .ok (.invokevirtual 96, 3) := by decide +kernel
theorem dX5_part_88 : decode cX5_part 88 = .ok (.ifCond .eq 7, 3) := by decide +kernel
theorem dX5_part_91 : decode cX5_part 91 = .ok (.iconst 3, 1) := by decide +kernel
theorem dX5_part_92 : decode cX5_part 92 = .ok (.goto 4, 3) := by decide +kernel
theorem dX5_part_95 : decode cX5_part 95 = .ok (.iconst 0, 1) := by decide +kernel
theorem dX5_part_96 : decode cX5_part 96 = .ok (.invokevirtual 100, 3) := by decide +kernel
theorem dX5_part_99 : decode cX5_part 99 = .ok (.ifCond .eq 5, 3) := by decide +kernel
theorem dX5_part_102 : decode cX5_part 102 = .ok (.iconst (-1), 1) := by decide +kernel
theorem dX5_part_103 : decode cX5_part 103 = .ok (.ireturn, 1) := by decide +kernel
theorem dX5_part_104 : decode cX5_part 104 = .ok (.aload_n 0, 1) := by decide +kernel
theorem dX5_part_105 : decode cX5_part 105 = .ok (.getfield 23, 3) := by decide +kernel
theorem dX5_part_108 : decode cX5_part 108 = .ok (.aload_n 0, 1) := by decide +kernel
theorem dX5_part_109 : decode cX5_part 109 = .ok (.getfield 78, 3) := by decide +kernel
theorem dX5_part_112 : decode cX5_part 112 = .ok (.iload_n 1, 1) := by decide +kernel
theorem dX5_part_113 : decode cX5_part 113 = .ok (.iastore, 1) := by decide +kernel
theorem dX5_part_114 : decode cX5_part 114 = .ok (.aload_n 0, 1) := by decide +kernel
theorem dX5_part_115 : decode cX5_part 115 = .ok (.getfield 26, 3) := by decide +kernel
theorem dX5_part_118 : decode cX5_part 118 = .ok (.aload_n 0, 1) := by decide +kernel
theorem dX5_part_119 : decode cX5_part 119 = .ok (.getfield 78, 3) := by decide +kernel
theorem dX5_part_122 : decode cX5_part 122 = .ok (.iload_n 2, 1) := by decide +kernel
theorem dX5_part_123 : decode cX5_part 123 = .ok (.iastore, 1) := by decide +kernel
theorem dX5_part_124 : decode cX5_part 124 = .ok (.aload_n 0, 1) := by decide +kernel
theorem dX5_part_125 : decode cX5_part 125 = .ok (.getfield 29, 3) := by decide +kernel
theorem dX5_part_128 : decode cX5_part 128 = .ok (.aload_n 0, 1) := by decide +kernel
theorem dX5_part_129 : decode cX5_part 129 = .ok (.getfield 78, 3) := by decide +kernel
theorem dX5_part_132 : decode cX5_part 132 = .ok (.iload_n 3, 1) := by decide +kernel
theorem dX5_part_133 : decode cX5_part 133 = .ok (.iastore, 1) := by decide +kernel
theorem dX5_part_134 : decode cX5_part 134 = .ok (.aload_n 0, 1) := by decide +kernel
theorem dX5_part_135 : decode cX5_part 135 = .ok (.getfield 32, 3) := by decide +kernel
theorem dX5_part_138 : decode cX5_part 138 = .ok (.aload_n 0, 1) := by decide +kernel
theorem dX5_part_139 : decode cX5_part 139 = .ok (.getfield 78, 3) := by decide +kernel
theorem dX5_part_142 : decode cX5_part 142 = .ok (.iload 4, 2) := by decide +kernel
theorem dX5_part_144 : decode cX5_part 144 = .ok (.iastore, 1) := by decide +kernel
theorem dX5_part_145 : decode cX5_part 145 = .ok (.aload_n 0, 1) := by decide +kernel
theorem dX5_part_146 : decode cX5_part 146 = .ok (.getfield 35, 3) := by decide +kernel
theorem dX5_part_149 : decode cX5_part 149 = .ok (.aload_n 0, 1) := by decide +kernel
theorem dX5_part_150 : decode cX5_part 150 = .ok (.getfield 78, 3) := by decide +kernel
theorem dX5_part_153 : decode cX5_part 153 = .ok (.iload 5, 2) := by decide +kernel
theorem dX5_part_155 : decode cX5_part 155 = .ok (.iastore, 1) := by decide +kernel
theorem dX5_part_156 : decode cX5_part 156 = .ok (.aload_n 0, 1) := by decide +kernel
theorem dX5_part_157 : decode cX5_part 157 = .ok (.getfield 38, 3) := by decide +kernel
theorem dX5_part_160 : decode cX5_part 160 = .ok (.aload_n 0, 1) := by decide +kernel
theorem dX5_part_161 : decode cX5_part 161 = .ok (.getfield 78, 3) := by decide +kernel
theorem dX5_part_164 : decode cX5_part 164 = .ok (.iload 6, 2) := by decide +kernel
theorem dX5_part_166 : decode cX5_part 166 = .ok (.ifCond .eq 7, 3) := by decide +kernel
theorem dX5_part_169 : decode cX5_part 169 = .ok (.iconst 1, 1) := by decide +kernel
theorem dX5_part_170 : decode cX5_part 170 = .ok (.goto 4, 3) := by decide +kernel
theorem dX5_part_173 : decode cX5_part 173 = .ok (.iconst 0, 1) := by decide +kernel
theorem dX5_part_174 : decode cX5_part 174 = .ok (.iastore, 1) := by decide +kernel
theorem dX5_part_175 : decode cX5_part 175 = .ok (.aload_n 0, 1) := by decide +kernel
theorem dX5_part_176 : decode cX5_part 176 = .ok (.dup, 1) := by decide +kernel
theorem dX5_part_177 : decode cX5_part 177 = .ok (.getfield 78, 3) := by decide +kernel
theorem dX5_part_180 : decode cX5_part 180 = .ok (.iconst 1, 1) := by decide +kernel
theorem dX5_part_181 : decode cX5_part 181 = .ok (.iadd, 1) := by decide +kernel
theorem dX5_part_182 : decode cX5_part 182 = .ok (.putfield 78, 3) := by decide +kernel
theorem dX5_part_185 : decode cX5_part 185 = .ok (.aload_n 0, 1) := by decide +kernel
theorem dX5_part_186 : decode cX5_part 186 = .ok (.getfield 78, 3) := by decide +kernel
theorem dX5_part_189 : decode cX5_part 189 = .ok (.iconst 1, 1) := by decide +kernel
theorem dX5_part_190 : decode cX5_part 190 = .ok (.isub, 1) := by decide +kernel
theorem dX5_part_191 : decode cX5_part 191 = .ok (.ireturn, 1) := by decide +kernel
theorem dX5_angle_0 : decode cX5_angle 0 = .ok (.aload_n 0, 1) := by decide +kernel
theorem dX5_angle_1 : decode cX5_angle 1 = .ok (.aload_n 0, 1) := by decide +kernel
theorem dX5_angle_2 : decode cX5_angle 2 = .ok (.iload_n 1, 1) := by decide +kernel
theorem dX5_angle_3 : decode cX5_angle 3 = .ok (.invokevirtual 92, 3) := by decide +kernel
theorem dX5_angle_6 : decode cX5_angle 6 = .ok (.ifCond .ne 7, 3) := by decide +kernel
theorem dX5_angle_9 : decode cX5_angle 9 = .ok (.iconst 1, 1) := by decide +kernel
theorem dX5_angle_10 : decode cX5_angle 10 = .ok (.goto 20, 3) := by decide +kernel
theorem dX5_angle_13 : decode cX5_angle 13 = .ok (.aload_n 0, 1) := by decide +kernel
theorem dX5_angle_14 : decode cX5_angle 14 = .ok (.iload_n 2, 1) := by decide +kernel
theorem dX5_angle_15 : decode cX5_angle 15 = .ok (.iconst 0, 1) := by decide +kernel
theorem dX5_angle_16 : decode cX5_angle 16 = .ok (.sipush 180, 3) := by decide +kernel
theorem dX5_angle_19 : decode cX5_angle 19 = .ok (.invokevirtual 74, 3) := by decide +kernel
theorem dX5_angle_22 : decode cX5_angle 22 = .ok (.ifCond .eq 7, 3) := by decide +kernel
theorem dX5_angle_25 : decode cX5_angle 25 = .ok (.iconst 0, 1) := by decide +kernel
theorem dX5_angle_26 : decode cX5_angle 26 = .ok (.goto 4, 3) := by decide +kernel
theorem dX5_angle_29 : decode cX5_angle 29 = .ok (.iconst 2, 1) := by decide +kernel
theorem dX5_angle_30 : decode cX5_angle 30 = .ok (.invokevirtual 100, 3) := by decide +kernel
theorem dX5_angle_33 : decode cX5_angle 33 = .ok (.ifCond .eq 7, 3) := by decide +kernel
theorem dX5_angle_36 : decode cX5_angle 36 = .ok (.iconst (-1), 1) := by decide +kernel
theorem dX5_angle_37 : decode cX5_angle 37 = .ok (.goto 9, 3) := by decide +kernel
theorem dX5_angle_40 : decode cX5_angle 40 = .ok (.aload_n 0, 1) := by decide +kernel
theorem dX5_angle_41 : decode cX5_angle 41 = .ok (.iload_n 1, 1) := by decide +kernel
theorem dX5_angle_42 : decode cX5_angle 42 = .ok (.iload_n 2, 1) := by decide +kernel
theorem dX5_angle_43 : decode cX5_angle 43 = .ok (.invokevirtual 103, 3) := by decide +kernel
theorem dX5_angle_46 : decode cX5_angle 46 = .ok (.ireturn, 1) := by decide +kernel
theorem dX5_angleAnew_0 : decode cX5_angleAnew 0 = .ok (.aload_n 0, 1) := by decide +kernel
theorem dX5_angleAnew_1 : decode cX5_angleAnew 1 = .ok (.aload_n 0, 1) := by decide +kernel
theorem dX5_angleAnew_2 : decode cX5_angleAnew 2 = .ok (.iload_n 1, 1) := by decide +kernel
theorem dX5_angleAnew_3 : decode cX5_angleAnew 3 = .ok (.invokevirtual 92, 3) := by decide +kernel
theorem dX5_angleAnew_6 : decode cX5_angleAnew 6 = .ok (.ifCond .ne 7, 3) := by decide +kernel
theorem dX5_angleAnew_9 : decode cX5_angleAnew 9 = .ok (.iconst 1, 1) := by decide +kernel
theorem dX5_angleAnew_10 : decode cX5_angleAnew 10 = .ok (.goto 20, 3) := by decide +kernel
theorem dX5_angleAnew_13 : decode cX5_angleAnew 13 = .ok (.aload_n 0, 1) := by decide +kernel
theorem dX5_angleAnew_14 : decode cX5_angleAnew 14 = .ok (.iload_n 2, 1) := by decide +kernel
theorem dX5_angleAnew_15 : decode cX5_angleAnew 15 = .ok (.iconst 0, 1) := by decide +kernel
theorem dX5_angleAnew_16 : decode cX5_angleAnew 16 = .ok (.sipush 180, 3) := by decide +kernel
theorem dX5_angleAnew_19 : decode cX5_angleAnew 19 = .ok (.invokevirtual 74, 3) := by decide +kernel
theorem dX5_angleAnew_22 : decode cX5_angleAnew 22 = .ok (.ifCond .eq 7, 3) := by decide +kernel
theorem dX5_angleAnew_25 : decode cX5_angleAnew 25 = .ok (.iconst 0, 1) := by decide +kernel
theorem dX5_angleAnew_26 : decode cX5_angleAnew 26 = .ok (.goto 4, 3) := by decide +kernel
theorem dX5_angleAnew_29 : decode cX5_angleAnew 29 = .ok (.iconst 2, 1) := by decide +kernel
theorem dX5_angleAnew_30 : decode cX5_angleAnew 30 = .ok (.invokevirtual 100, 3) := by decide +kernel
theorem dX5_angleAnew_33 : decode cX5_angleAnew 33 = .ok (.ifCond .eq 7, 3) := by decide +kernel
theorem dX5_angleAnew_36 : decode cX5_angleAnew 36 = .ok (.iconst (-1), 1) := by decide +kernel
theorem dX5_angleAnew_37 : decode cX5_angleAnew 37 = .ok (.goto 9, 3) := by decide +kernel
theorem dX5_angleAnew_40 : decode cX5_angleAnew 40 = .ok (.aload_n 0, 1) := by decide +kernel
theorem dX5_angleAnew_41 : decode cX5_angleAnew 41 = .ok (.iload_n 1, 1) := by decide +kernel
theorem dX5_angleAnew_42 : decode cX5_angleAnew 42 = .ok (.iload_n 2, 1) := by decide +kernel
theorem dX5_angleAnew_43 : decode cX5_angleAnew 43 = .ok (.invokevirtual 103, 3) := by decide +kernel
theorem dX5_angleAnew_46 : decode cX5_angleAnew 46 = .ok (.ireturn, 1) := by decide +kernel
theorem dX5_rises_0 : decode cX5_rises 0 = .ok (.aload_n 0, 1) := by decide +kernel
theorem dX5_rises_1 : decode cX5_rises 1 = .ok (.aload_n 0, 1) := by decide +kernel
theorem dX5_rises_2 : decode cX5_rises 2 = .ok (.getfield 23, 3) := by decide +kernel
theorem dX5_rises_5 : decode cX5_rises 5 = .ok (.iload_n 1, 1) := by decide +kernel
theorem dX5_rises_6 : decode cX5_rises 6 = .ok (.iaload, 1) := by decide +kernel
theorem dX5_rises_7 : decode cX5_rises 7 = .ok (.iload_n 2, 1) := by decide +kernel
theorem dX5_rises_8 : decode cX5_rises 8 = .ok (.invokevirtual 103, 3) := by decide +kernel
theorem dX5_rises_11 : decode cX5_rises 11 = .ok (.istore_n 3, 1) := by decide +kernel
theorem dX5_rises_12 : decode cX5_rises 12 = .ok (.aload_n 0, 1) := by decide +kernel
theorem dX5_rises_13 : decode cX5_rises 13 = .ok (.getfield 29, 3) := by decide +kernel
theorem dX5_rises_16 : decode cX5_rises 16 = .ok (.iload_n 1, 1) := by decide +kernel
theorem dX5_rises_17 : decode cX5_rises 17 = .ok (.iaload, 1) := by decide +kernel
theorem dX5_rises_18 : decode cX5_rises 18 = .ok (.iload_n 3, 1) := by decide +kernel
theorem dX5_rises_19 : decode cX5_rises 19 = .ok (.sipush 180, 3) := by decide +kernel
theorem dX5_rises_22 : decode cX5_rises 22 = .ok (.iload_n 3, 1) := by decide +kernel
theorem dX5_rises_23 : decode cX5_rises 23 = .ok (.isub, 1) := by decide +kernel
theorem dX5_rises_24 : decode cX5_rises 24 = .ok (.if_icmp .ge 7, 3) := by decide +kernel
theorem dX5_rises_27 : decode cX5_rises 27 = .ok (.iload_n 3, 1) := by decide +kernel
theorem dX5_rises_28 : decode cX5_rises 28 = .ok (.goto 8, 3) := by decide +kernel
theorem dX5_rises_31 : decode cX5_rises 31 = .ok (.sipush 180, 3) := by decide +kernel
theorem dX5_rises_34 : decode cX5_rises 34 = .ok (.iload_n 3, 1) := by decide +kernel
theorem dX5_rises_35 : decode cX5_rises 35 = .ok (.isub, 1) := by decide +kernel
theorem dX5_rises_36 : decode cX5_rises 36 = .ok (.imul, 1) := by decide +kernel
theorem dX5_rises_37 : decode cX5_rises 37 = .ok (.bipush 90, 2) := by decide +kernel
theorem dX5_rises_39 : decode cX5_rises 39 = .ok (.idiv, 1) := by decide +kernel
theorem dX5_rises_40 : decode cX5_rises 40 = .ok (.ireturn, 1) := by decide +kernel
theorem dX5_reach_0 : decode cX5_reach 0 = .ok (.aload_n 0, 1) := by decide +kernel
theorem dX5_reach_1 : decode cX5_reach 1 = .ok (.getfield 26, 3) := by decide +kernel
theorem dX5_reach_4 : decode cX5_reach 4 = .ok (.iload_n 1, 1) := by decide +kernel
theorem dX5_reach_5 : decode cX5_reach 5 = .ok (.iaload, 1) := by decide +kernel
theorem dX5_reach_6 : decode cX5_reach 6 = .ok (.aload_n 0, 1) := by decide +kernel
theorem dX5_reach_7 : decode cX5_reach 7 = .ok (.getfield 29, 3) := by decide +kernel
theorem dX5_reach_10 : decode cX5_reach 10 = .ok (.iload_n 1, 1) := by decide +kernel
theorem dX5_reach_11 : decode cX5_reach 11 = .ok (.iaload, 1) := by decide +kernel
theorem dX5_reach_12 : decode cX5_reach 12 = .ok (.bipush 90, 2) := by decide +kernel
theorem dX5_reach_14 : decode cX5_reach 14 = .ok (.aload_n 0, 1) := by decide +kernel
theorem dX5_reach_15 : decode cX5_reach 15 = .ok (.aload_n 0, 1) := by decide +kernel
theorem dX5_reach_16 : decode cX5_reach 16 = .ok (.getfield 23, 3) := by decide +kernel
theorem dX5_reach_19 : decode cX5_reach 19 = .ok (.iload_n 1, 1) := by decide +kernel
theorem dX5_reach_20 : decode cX5_reach 20 = .ok (.iaload, 1) := by decide +kernel
theorem dX5_reach_21 : decode cX5_reach 21 = .ok (.iload_n 2, 1) := by decide +kernel
theorem dX5_reach_22 : decode cX5_reach 22 = .ok (.invokevirtual 103, 3) := by decide +kernel
theorem dX5_reach_25 : decode cX5_reach 25 = .ok (.isub, 1) := by decide +kernel
theorem dX5_reach_26 : decode cX5_reach 26 = .ok (.imul, 1) := by decide +kernel
theorem dX5_reach_27 : decode cX5_reach 27 = .ok (.bipush 90, 2) := by decide +kernel
theorem dX5_reach_29 : decode cX5_reach 29 = .ok (.idiv, 1) := by decide +kernel
theorem dX5_reach_30 : decode cX5_reach 30 = .ok (.iadd, 1) := by decide +kernel
theorem dX5_reach_31 : decode cX5_reach 31 = .ok (.ireturn, 1) := by decide +kernel
theorem dX5_low_0 : decode cX5_low 0 = .ok (.aload_n 0, 1) := by decide +kernel
theorem dX5_low_1 : decode cX5_low 1 = .ok (.iload_n 1, 1) := by decide +kernel
theorem dX5_low_2 : decode cX5_low 2 = .ok (.iload_n 2, 1) := by decide +kernel
theorem dX5_low_3 : decode cX5_low 3 = .ok (.invokevirtual 106, 3) := by decide +kernel
theorem dX5_low_6 : decode cX5_low 6 = .ok (.istore_n 3, 1) := by decide +kernel
theorem dX5_low_7 : decode cX5_low 7 = .ok (.iload_n 3, 1) := by decide +kernel
theorem dX5_low_8 : decode cX5_low 8 = .ok (.aload_n 0, 1) := by decide +kernel
theorem dX5_low_9 : decode cX5_low 9 = .ok (.getfield 26, 3) := by decide +kernel
theorem dX5_low_12 : decode cX5_low 12 = .ok (.iload_n 1, 1) := by decide +kernel
theorem dX5_low_13 : decode cX5_low 13 = .ok (.iaload, 1) := by decide +kernel
theorem dX5_low_14 : decode cX5_low 14 = .ok (.if_icmp .ge 7, 3) := by decide +kernel
theorem dX5_low_17 : decode cX5_low 17 = .ok (.iload_n 3, 1) := by decide +kernel
theorem dX5_low_18 : decode cX5_low 18 = .ok (.goto 9, 3) := by decide +kernel
theorem dX5_low_21 : decode cX5_low 21 = .ok (.aload_n 0, 1) := by decide +kernel
theorem dX5_low_22 : decode cX5_low 22 = .ok (.getfield 26, 3) := by decide +kernel
theorem dX5_low_25 : decode cX5_low 25 = .ok (.iload_n 1, 1) := by decide +kernel
theorem dX5_low_26 : decode cX5_low 26 = .ok (.iaload, 1) := by decide +kernel
theorem dX5_low_27 : decode cX5_low 27 = .ok (.ireturn, 1) := by decide +kernel
theorem dX5_high_0 : decode cX5_high 0 = .ok (.aload_n 0, 1) := by decide +kernel
theorem dX5_high_1 : decode cX5_high 1 = .ok (.iload_n 1, 1) := by decide +kernel
theorem dX5_high_2 : decode cX5_high 2 = .ok (.iload_n 2, 1) := by decide +kernel
theorem dX5_high_3 : decode cX5_high 3 = .ok (.invokevirtual 106, 3) := by decide +kernel
theorem dX5_high_6 : decode cX5_high 6 = .ok (.istore_n 3, 1) := by decide +kernel
theorem dX5_high_7 : decode cX5_high 7 = .ok (.iload_n 3, 1) := by decide +kernel
theorem dX5_high_8 : decode cX5_high 8 = .ok (.aload_n 0, 1) := by decide +kernel
theorem dX5_high_9 : decode cX5_high 9 = .ok (.getfield 26, 3) := by decide +kernel
theorem dX5_high_12 : decode cX5_high 12 = .ok (.iload_n 1, 1) := by decide +kernel
theorem dX5_high_13 : decode cX5_high 13 = .ok (.iaload, 1) := by decide +kernel
theorem dX5_high_14 : decode cX5_high 14 = .ok (.if_icmp .le 7, 3) := by decide +kernel
theorem dX5_high_17 : decode cX5_high 17 = .ok (.iload_n 3, 1) := by decide +kernel
theorem dX5_high_18 : decode cX5_high 18 = .ok (.goto 9, 3) := by decide +kernel
theorem dX5_high_21 : decode cX5_high 21 = .ok (.aload_n 0, 1) := by decide +kernel
theorem dX5_high_22 : decode cX5_high 22 = .ok (.getfield 26, 3) := by decide +kernel
theorem dX5_high_25 : decode cX5_high 25 = .ok (.iload_n 1, 1) := by decide +kernel
theorem dX5_high_26 : decode cX5_high 26 = .ok (.iaload, 1) := by decide +kernel
theorem dX5_high_27 : decode cX5_high 27 = .ok (.ireturn, 1) := by decide +kernel
theorem dX5_share_0 : decode cX5_share 0 = .ok (.aload_n 0, 1) := by decide +kernel
theorem dX5_share_1 : decode cX5_share 1 = .ok (.getfield 32, 3) := by decide +kernel
theorem dX5_share_4 : decode cX5_share 4 = .ok (.iload_n 1, 1) := by decide +kernel
theorem dX5_share_5 : decode cX5_share 5 = .ok (.iaload, 1) := by decide +kernel
theorem dX5_share_6 : decode cX5_share 6 = .ok (.aload_n 0, 1) := by decide +kernel
theorem dX5_share_7 : decode cX5_share 7 = .ok (.getfield 32, 3) := by decide +kernel
theorem dX5_share_10 : decode cX5_share 10 = .ok (.iload_n 2, 1) := by decide +kernel
theorem dX5_share_11 : decode cX5_share 11 = .ok (.iaload, 1) := by decide +kernel
theorem dX5_share_12 : decode cX5_share 12 = .ok (.aload_n 0, 1) := by decide +kernel
theorem dX5_share_13 : decode cX5_share 13 = .ok (.getfield 35, 3) := by decide +kernel
theorem dX5_share_16 : decode cX5_share 16 = .ok (.iload_n 2, 1) := by decide +kernel
theorem dX5_share_17 : decode cX5_share 17 = .ok (.iaload, 1) := by decide +kernel
theorem dX5_share_18 : decode cX5_share 18 = .ok (.iadd, 1) := by decide +kernel
theorem dX5_share_19 : decode cX5_share 19 = .ok (.iconst 1, 1) := by decide +kernel
theorem dX5_share_20 : decode cX5_share 20 = .ok (.isub, 1) := by decide +kernel
theorem dX5_share_21 : decode cX5_share 21 = .ok (.if_icmp .gt 31, 3) := by decide +kernel
theorem dX5_share_24 : decode cX5_share 24 = .ok (.aload_n 0, 1) := by decide +kernel
theorem dX5_share_25 : decode cX5_share 25 = .ok (.getfield 32, 3) := by decide +kernel
theorem dX5_share_28 : decode cX5_share 28 = .ok (.iload_n 2, 1) := by decide +kernel
theorem dX5_share_29 : decode cX5_share 29 = .ok (.iaload, 1) := by decide +kernel
theorem dX5_share_30 : decode cX5_share 30 = .ok (.aload_n 0, 1) := by decide +kernel
theorem dX5_share_31 : decode cX5_share 31 = .ok (.getfield 32, 3) := by decide +kernel
theorem dX5_share_34 : decode cX5_share 34 = .ok (.iload_n 1, 1) := by decide +kernel
theorem dX5_share_35 : decode cX5_share 35 = .ok (.iaload, 1) := by decide +kernel
theorem dX5_share_36 : decode cX5_share 36 = .ok (.aload_n 0, 1) := by decide +kernel
theorem dX5_share_37 : decode cX5_share 37 = .ok (.getfield 35, 3) := by decide +kernel
theorem dX5_share_40 : decode cX5_share 40 = .ok (.iload_n 1, 1) := by decide +kernel
theorem dX5_share_41 : decode cX5_share 41 = .ok (.iaload, 1) := by decide +kernel
theorem dX5_share_42 : decode cX5_share 42 = .ok (.iadd, 1) := by decide +kernel
theorem dX5_share_43 : decode cX5_share 43 = .ok (.iconst 1, 1) := by decide +kernel
theorem dX5_share_44 : decode cX5_share 44 = .ok (.isub, 1) := by decide +kernel
theorem dX5_share_45 : decode cX5_share 45 = .ok (.if_icmp .gt 7, 3) := by decide +kernel
theorem dX5_share_48 : decode cX5_share 48 = .ok (.iconst 1, 1) := by decide +kernel
theorem dX5_share_49 : decode cX5_share 49 = .ok (.goto 4, 3) := by decide +kernel
theorem dX5_share_52 : decode cX5_share 52 = .ok (.iconst 0, 1) := by decide +kernel
theorem dX5_share_53 : decode cX5_share 53 = .ok (.ireturn, 1) := by decide +kernel
theorem dX5_meets_0 : decode cX5_meets 0 = .ok (.aload_n 0, 1) := by decide +kernel
theorem dX5_meets_1 : decode cX5_meets 1 = .ok (.iload_n 1, 1) := by decide +kernel
theorem dX5_meets_2 : decode cX5_meets 2 = .ok (.iload_n 3, 1) := by decide +kernel
theorem dX5_meets_3 : decode cX5_meets 3 = .ok (.invokevirtual 109, 3) := by decide +kernel
theorem dX5_meets_6 : decode cX5_meets 6 = .ok (.istore 4, 2) := by decide +kernel
theorem dX5_meets_8 : decode cX5_meets 8 = .ok (.aload_n 0, 1) := by decide +kernel
theorem dX5_meets_9 : decode cX5_meets 9 = .ok (.iload_n 2, 1) := by decide +kernel
theorem dX5_meets_10 : decode cX5_meets 10 = .ok (.iload_n 3, 1) := by decide +kernel
theorem dX5_meets_11 : decode cX5_meets 11 = .ok (.invokevirtual 109, 3) := by decide +kernel
theorem dX5_meets_14 : decode cX5_meets 14 = .ok (.istore 5, 2) := by decide +kernel
theorem dX5_meets_16 : decode cX5_meets 16 = .ok (.iload_n 1, 1) := by decide +kernel
theorem dX5_meets_17 : decode cX5_meets 17 = .ok (.iload_n 2, 1) := by decide +kernel
theorem dX5_meets_18 : decode cX5_meets 18 = .ok (.if_icmp .eq 74, 3) := by decide +kernel
theorem dX5_meets_21 : decode cX5_meets 21 = .ok (.aload_n 0, 1) := by decide +kernel
theorem dX5_meets_22 : decode cX5_meets 22 = .ok (.iload_n 1, 1) := by decide +kernel
theorem dX5_meets_23 : decode cX5_meets 23 = .ok (.iload_n 2, 1) := by decide +kernel
theorem dX5_meets_24 : decode cX5_meets 24 = .ok (.invokevirtual 112, 3) := by decide +kernel
theorem dX5_meets_27 : decode cX5_meets 27 = .ok (.ifCond .eq 65, 3) := by decide +kernel
theorem dX5_meets_30 : decode cX5_meets 30 = .ok (.iload 4, 2) := by decide +kernel
theorem dX5_meets_32 : decode cX5_meets 32 = .ok (.ifCond .le 60, 3) := by decide +kernel
theorem dX5_meets_35 : decode cX5_meets 35 = .ok (.iload 5, 2) := by decide +kernel
theorem dX5_meets_37 : decode cX5_meets 37 = .ok (.ifCond .le 55, 3) := by decide +kernel
theorem dX5_meets_40 : decode cX5_meets 40 = .ok (.iload 4, 2) := by decide +kernel
theorem dX5_meets_42 : decode cX5_meets 42 = .ok (.iload 5, 2) := by decide +kernel
theorem dX5_meets_44 : decode cX5_meets 44 = .ok (.isub, 1) := by decide +kernel
theorem dX5_meets_45 : decode cX5_meets 45 = .ok (.iconst 2, 1) := by decide +kernel
theorem dX5_meets_46 : decode cX5_meets 46 = .ok (.if_icmp .ge 46, 3) := by decide +kernel
theorem dX5_meets_49 : decode cX5_meets 49 = .ok (.iload 5, 2) := by decide +kernel
theorem dX5_meets_51 : decode cX5_meets 51 = .ok (.iload 4, 2) := by decide +kernel
theorem dX5_meets_53 : decode cX5_meets 53 = .ok (.isub, 1) := by decide +kernel
theorem dX5_meets_54 : decode cX5_meets 54 = .ok (.iconst 2, 1) := by decide +kernel
theorem dX5_meets_55 : decode cX5_meets 55 = .ok (.if_icmp .ge 37, 3) := by decide +kernel
theorem dX5_meets_58 : decode cX5_meets 58 = .ok (.aload_n 0, 1) := by decide +kernel
theorem dX5_meets_59 : decode cX5_meets 59 = .ok (.iload_n 1, 1) := by decide +kernel
theorem dX5_meets_60 : decode cX5_meets 60 = .ok (.iload_n 3, 1) := by decide +kernel
theorem dX5_meets_61 : decode cX5_meets 61 = .ok (.invokevirtual 116, 3) := by decide +kernel
theorem dX5_meets_64 : decode cX5_meets 64 = .ok (.aload_n 0, 1) := by decide +kernel
theorem dX5_meets_65 : decode cX5_meets 65 = .ok (.iload_n 2, 1) := by decide +kernel
theorem dX5_meets_66 : decode cX5_meets 66 = .ok (.iload_n 3, 1) := by decide +kernel
theorem dX5_meets_67 : decode cX5_meets 67 = .ok (.invokevirtual 119, 3) := by decide +kernel
theorem dX5_meets_70 : decode cX5_meets 70 = .ok (.if_icmp .gt 22, 3) := by decide +kernel
theorem dX5_meets_73 : decode cX5_meets 73 = .ok (.aload_n 0, 1) := by decide +kernel
theorem dX5_meets_74 : decode cX5_meets 74 = .ok (.iload_n 2, 1) := by decide +kernel
theorem dX5_meets_75 : decode cX5_meets 75 = .ok (.iload_n 3, 1) := by decide +kernel
theorem dX5_meets_76 : decode cX5_meets 76 = .ok (.invokevirtual 116, 3) := by decide +kernel
theorem dX5_meets_79 : decode cX5_meets 79 = .ok (.aload_n 0, 1) := by decide +kernel
theorem dX5_meets_80 : decode cX5_meets 80 = .ok (.iload_n 1, 1) := by decide +kernel
theorem dX5_meets_81 : decode cX5_meets 81 = .ok (.iload_n 3, 1) := by decide +kernel
theorem dX5_meets_82 : decode cX5_meets 82 = .ok (.invokevirtual 119, 3) := by decide +kernel
theorem dX5_meets_85 : decode cX5_meets 85 = .ok (.if_icmp .gt 7, 3) := by decide +kernel
theorem dX5_meets_88 : decode cX5_meets 88 = .ok (.iconst 1, 1) := by decide +kernel
theorem dX5_meets_89 : decode cX5_meets 89 = .ok (.goto 4, 3) := by decide +kernel
theorem dX5_meets_92 : decode cX5_meets 92 = .ok (.iconst 0, 1) := by decide +kernel
theorem dX5_meets_93 : decode cX5_meets 93 = .ok (.ireturn, 1) := by decide +kernel
theorem dX5_where_0 : decode cX5_where 0 = .ok (.aload_n 0, 1) := by decide +kernel
theorem dX5_where_1 : decode cX5_where 1 = .ok (.aload_n 0, 1) := by decide +kernel
theorem dX5_where_2 : decode cX5_where 2 = .ok (.iload_n 1, 1) := by decide +kernel
theorem dX5_where_3 : decode cX5_where 3 = .ok (.invokevirtual 122, 3) := by decide +kernel
theorem dX5_where_6 : decode cX5_where 6 = .ok (.ifCond .ne 7, 3) := by decide +kernel
theorem dX5_where_9 : decode cX5_where 9 = .ok (.iconst 1, 1) := by decide +kernel
theorem dX5_where_10 : decode cX5_where 10 = .ok (.goto 30, 3) := by decide +kernel
theorem dX5_where_13 : decode cX5_where 13 = .ok (.aload_n 0, 1) := by decide +kernel
theorem dX5_where_14 : decode cX5_where 14 = .ok (.iload_n 2, 1) := by decide +kernel
theorem dX5_where_15 : decode cX5_where 15 = .ok (.iconst 0, 1) := by decide +kernel
theorem dX5_where_16 : decode cX5_where 16 = .ok (.sipush 180, 3) := by decide +kernel
theorem dX5_where_19 : decode cX5_where 19 = .ok (.invokevirtual 74, 3) := by decide +kernel
theorem dX5_where_22 : decode cX5_where 22 = .ok (.ifCond .eq 17, 3) := by decide +kernel
theorem dX5_where_25 : decode cX5_where 25 = .ok (.aload_n 0, 1) := by decide +kernel
theorem dX5_where_26 : decode cX5_where 26 = .ok (.iload_n 3, 1) := by decide +kernel
theorem dX5_where_27 : decode cX5_where 27 = .ok (.iconst 0, 1) := by decide +kernel
theorem dX5_where_28 : decode cX5_where 28 = .ok (.iconst 2, 1) := by decide +kernel
theorem dX5_where_29 : decode cX5_where 29 = .ok (.invokevirtual 74, 3) := by decide +kernel
theorem dX5_where_32 : decode cX5_where 32 = .ok (.ifCond .eq 7, 3) := by decide +kernel
theorem dX5_where_35 : decode cX5_where 35 = .ok (.iconst 0, 1) := by decide +kernel
theorem dX5_where_36 : decode cX5_where 36 = .ok (.goto 4, 3) := by decide +kernel
theorem dX5_where_39 : decode cX5_where 39 = .ok (.iconst 2, 1) := by decide +kernel
theorem dX5_where_40 : decode cX5_where 40 = .ok (.invokevirtual 100, 3) := by decide +kernel
theorem dX5_where_43 : decode cX5_where 43 = .ok (.ifCond .eq 5, 3) := by decide +kernel
theorem dX5_where_46 : decode cX5_where 46 = .ok (.iconst (-1), 1) := by decide +kernel
theorem dX5_where_47 : decode cX5_where 47 = .ok (.ireturn, 1) := by decide +kernel
theorem dX5_where_48 : decode cX5_where 48 = .ok (.iload_n 3, 1) := by decide +kernel
theorem dX5_where_49 : decode cX5_where 49 = .ok (.ifCond .ne 12, 3) := by decide +kernel
theorem dX5_where_52 : decode cX5_where 52 = .ok (.aload_n 0, 1) := by decide +kernel
theorem dX5_where_53 : decode cX5_where 53 = .ok (.iload_n 1, 1) := by decide +kernel
theorem dX5_where_54 : decode cX5_where 54 = .ok (.iload_n 2, 1) := by decide +kernel
theorem dX5_where_55 : decode cX5_where 55 = .ok (.invokevirtual 109, 3) := by decide +kernel
theorem dX5_where_58 : decode cX5_where 58 = .ok (.goto 23, 3) := by decide +kernel
theorem dX5_where_61 : decode cX5_where 61 = .ok (.iload_n 3, 1) := by decide +kernel
theorem dX5_where_62 : decode cX5_where 62 = .ok (.iconst 1, 1) := by decide +kernel
theorem dX5_where_63 : decode cX5_where 63 = .ok (.if_icmp .ne 12, 3) := by decide +kernel
theorem dX5_where_66 : decode cX5_where 66 = .ok (.aload_n 0, 1) := by decide +kernel
theorem dX5_where_67 : decode cX5_where 67 = .ok (.iload_n 1, 1) := by decide +kernel
theorem dX5_where_68 : decode cX5_where 68 = .ok (.iload_n 2, 1) := by decide +kernel
theorem dX5_where_69 : decode cX5_where 69 = .ok (.invokevirtual 116, 3) := by decide +kernel
theorem dX5_where_72 : decode cX5_where 72 = .ok (.goto 9, 3) := by decide +kernel
theorem dX5_where_75 : decode cX5_where 75 = .ok (.aload_n 0, 1) := by decide +kernel
theorem dX5_where_76 : decode cX5_where 76 = .ok (.iload_n 1, 1) := by decide +kernel
theorem dX5_where_77 : decode cX5_where 77 = .ok (.iload_n 2, 1) := by decide +kernel
theorem dX5_where_78 : decode cX5_where 78 = .ok (.invokevirtual 119, 3) := by decide +kernel
theorem dX5_where_81 : decode cX5_where 81 = .ok (.ireturn, 1) := by decide +kernel
theorem dX5_meet_0 : decode cX5_meet 0 = .ok (.aload_n 0, 1) := by decide +kernel
theorem dX5_meet_1 : decode cX5_meet 1 = .ok (.aload_n 0, 1) := by decide +kernel
theorem dX5_meet_2 : decode cX5_meet 2 = .ok (.iload_n 1, 1) := by decide +kernel
theorem dX5_meet_3 : decode cX5_meet 3 = .ok (.invokevirtual 122, 3) := by decide +kernel
theorem dX5_meet_6 : decode cX5_meet 6 = .ok (.ifCond .eq 11, 3) := by decide +kernel
theorem dX5_meet_9 : decode cX5_meet 9 = .ok (.aload_n 0, 1) := by decide +kernel
theorem dX5_meet_10 : decode cX5_meet 10 = .ok (.iload_n 2, 1) := by decide +kernel
theorem dX5_meet_11 : decode cX5_meet 11 = .ok (.invokevirtual 122, 3) := by decide +kernel
theorem dX5_meet_14 : decode cX5_meet 14 = .ok (.ifCond .ne 7, 3) := by decide +kernel
theorem dX5_meet_17 : decode cX5_meet 17 = .ok (.iconst 1, 1) := by decide +kernel
theorem dX5_meet_18 : decode cX5_meet 18 = .ok (.goto 20, 3) := by decide +kernel
theorem dX5_meet_21 : decode cX5_meet 21 = .ok (.aload_n 0, 1) := by decide +kernel
theorem dX5_meet_22 : decode cX5_meet 22 = .ok (.iload_n 3, 1) := by decide +kernel
theorem dX5_meet_23 : decode cX5_meet 23 = .ok (.iconst 0, 1) := by decide +kernel
theorem dX5_meet_24 : decode cX5_meet 24 = .ok (.sipush 180, 3) := by decide +kernel
theorem dX5_meet_27 : decode cX5_meet 27 = .ok (.invokevirtual 74, 3) := by decide +kernel
theorem dX5_meet_30 : decode cX5_meet 30 = .ok (.ifCond .eq 7, 3) := by decide +kernel
theorem dX5_meet_33 : decode cX5_meet 33 = .ok (.iconst 0, 1) := by decide +kernel
theorem dX5_meet_34 : decode cX5_meet 34 = .ok (.goto 4, 3) := by decide +kernel
theorem dX5_meet_37 : decode cX5_meet 37 = .ok (.iconst 2, 1) := by decide +kernel
theorem dX5_meet_38 : decode cX5_meet 38 = .ok (.invokevirtual 100, 3) := by decide +kernel
theorem dX5_meet_41 : decode cX5_meet 41 = .ok (.ifCond .eq 5, 3) := by decide +kernel
theorem dX5_meet_44 : decode cX5_meet 44 = .ok (.iconst 0, 1) := by decide +kernel
theorem dX5_meet_45 : decode cX5_meet 45 = .ok (.ireturn, 1) := by decide +kernel
theorem dX5_meet_46 : decode cX5_meet 46 = .ok (.aload_n 0, 1) := by decide +kernel
theorem dX5_meet_47 : decode cX5_meet 47 = .ok (.iload_n 1, 1) := by decide +kernel
theorem dX5_meet_48 : decode cX5_meet 48 = .ok (.iload_n 2, 1) := by decide +kernel
theorem dX5_meet_49 : decode cX5_meet 49 = .ok (.iload_n 3, 1) := by decide +kernel
theorem dX5_meet_50 : decode cX5_meet 50 = .ok (.invokevirtual 125, 3) := by decide +kernel
theorem dX5_meet_53 : decode cX5_meet 53 = .ok (.ireturn, 1) := by decide +kernel
theorem dX5_tests_0 : decode cX5_tests 0 = .ok (.iconst 0, 1) := by decide +kernel
theorem dX5_tests_1 : decode cX5_tests 1 = .ok (.istore_n 1, 1) := by decide +kernel
theorem dX5_tests_2 : decode cX5_tests 2 = .ok (.iload_n 1, 1) := by decide +kernel
theorem dX5_tests_3 : decode cX5_tests 3 = .ok (.sipush 180, 3) := by decide +kernel
theorem dX5_tests_6 : decode cX5_tests 6 = .ok (.if_icmp .gt 63, 3) := by decide +kernel
theorem dX5_tests_9 : decode cX5_tests 9 = .ok (.iconst 0, 1) := by decide +kernel
theorem dX5_tests_10 : decode cX5_tests 10 = .ok (.istore_n 2, 1) := by decide +kernel
theorem dX5_tests_11 : decode cX5_tests 11 = .ok (.iload_n 2, 1) := by decide +kernel
theorem dX5_tests_12 : decode cX5_tests 12 = .ok (.aload_n 0, 1) := by decide +kernel
theorem dX5_tests_13 : decode cX5_tests 13 = .ok (.getfield 78, 3) := by decide +kernel
theorem dX5_tests_16 : decode cX5_tests 16 = .ok (.aload_n 0, 1) := by decide +kernel
theorem dX5_tests_17 : decode cX5_tests 17 = .ok (.getfield 78, 3) := by decide +kernel
theorem dX5_tests_20 : decode cX5_tests 20 = .ok (.imul, 1) := by decide +kernel
theorem dX5_tests_21 : decode cX5_tests 21 = .ok (.if_icmp .ge 42, 3) := by decide +kernel
theorem dX5_tests_24 : decode cX5_tests 24 = .ok (.aload_n 0, 1) := by decide +kernel
theorem dX5_tests_25 : decode cX5_tests 25 = .ok (.iload_n 2, 1) := by decide +kernel
theorem dX5_tests_26 : decode cX5_tests 26 = .ok (.aload_n 0, 1) := by decide +kernel
theorem dX5_tests_27 : decode cX5_tests 27 = .ok (.getfield 78, 3) := by decide +kernel
theorem dX5_tests_30 : decode cX5_tests 30 = .ok (.idiv, 1) := by decide +kernel
theorem dX5_tests_31 : decode cX5_tests 31 = .ok (.iload_n 2, 1) := by decide +kernel
theorem dX5_tests_32 : decode cX5_tests 32 = .ok (.aload_n 0, 1) := by decide +kernel
theorem dX5_tests_33 : decode cX5_tests 33 = .ok (.getfield 78, 3) := by decide +kernel
theorem dX5_tests_36 : decode cX5_tests 36 = .ok (.irem, 1) := by decide +kernel
theorem dX5_tests_37 : decode cX5_tests 37 = .ok (.iload_n 1, 1) := by decide +kernel
theorem dX5_tests_38 : decode cX5_tests 38 = .ok (.invokevirtual 125, 3) := by decide +kernel
theorem dX5_tests_41 : decode cX5_tests 41 = .ok (.ifCond .eq 16, 3) := by decide +kernel
theorem dX5_tests_44 : decode cX5_tests 44 = .ok (.sipush 1000, 3) := by decide +kernel
theorem dX5_tests_47 : decode cX5_tests 47 = .ok (.iload_n 2, 1) := by decide +kernel
theorem dX5_tests_48 : decode cX5_tests 48 = .ok (.aload_n 0, 1) := by decide +kernel
theorem dX5_tests_49 : decode cX5_tests 49 = .ok (.getfield 78, 3) := by decide +kernel
theorem dX5_tests_52 : decode cX5_tests 52 = .ok (.idiv, 1) := by decide +kernel
theorem dX5_tests_53 : decode cX5_tests 53 = .ok (.imul, 1) := by decide +kernel
theorem dX5_tests_54 : decode cX5_tests 54 = .ok (.iload_n 1, 1) := by decide +kernel
theorem dX5_tests_55 : decode cX5_tests 55 = .ok (.iadd, 1) := by decide +kernel
theorem dX5_tests_56 : decode cX5_tests 56 = .ok (.ireturn, 1) := by decide +kernel
theorem dX5_tests_57 : decode cX5_tests 57 = .ok (.iinc 2 1, 3) := by decide +kernel
theorem dX5_tests_60 : decode cX5_tests 60 = .ok (.goto (-49), 3) := by decide +kernel
theorem dX5_tests_63 : decode cX5_tests 63 = .ok (.iinc 1 15, 3) := by decide +kernel
theorem dX5_tests_66 : decode cX5_tests 66 = .ok (.goto (-64), 3) := by decide +kernel
theorem dX5_tests_69 : decode cX5_tests 69 = .ok (.iconst (-1), 1) := by decide +kernel
theorem dX5_tests_70 : decode cX5_tests 70 = .ok (.ireturn, 1) := by decide +kernel
theorem dX5_test_0 : decode cX5_test 0 = .ok (.aload_n 0, 1) := by decide +kernel
theorem dX5_test_1 : decode cX5_test 1 = .ok (.iconst 0, 1) := by decide +kernel
theorem dX5_test_2 : decode cX5_test 2 = .ok (.invokevirtual 100, 3) := by decide +kernel
theorem dX5_test_5 : decode cX5_test 5 = .ok (.pop, 1) := by decide +kernel
theorem dX5_test_6 : decode cX5_test 6 = .ok (.aload_n 0, 1) := by decide +kernel
theorem dX5_test_7 : decode cX5_test 7 = .ok (.invokevirtual 88, 3) := by decide +kernel
theorem dX5_test_10 : decode cX5_test 10 = .ok (.ireturn, 1) := by decide +kernel
theorem dX5_wide_0 : decode cX5_wide 0 = .ok (.aload_n 0, 1) := by decide +kernel
theorem dX5_wide_1 : decode cX5_wide 1 = .ok (.getfield 38, 3) := by decide +kernel
theorem dX5_wide_4 : decode cX5_wide 4 = .ok (.iload_n 1, 1) := by decide +kernel
theorem dX5_wide_5 : decode cX5_wide 5 = .ok (.iaload, 1) := by decide +kernel
theorem dX5_wide_6 : decode cX5_wide 6 = .ok (.iconst 1, 1) := by decide +kernel
theorem dX5_wide_7 : decode cX5_wide 7 = .ok (.if_icmp .ne 12, 3) := by decide +kernel
theorem dX5_wide_10 : decode cX5_wide 10 = .ok (.aload_n 0, 1) := by decide +kernel
theorem dX5_wide_11 : decode cX5_wide 11 = .ok (.getfield 29, 3) := by decide +kernel
theorem dX5_wide_14 : decode cX5_wide 14 = .ok (.iload_n 1, 1) := by decide +kernel
theorem dX5_wide_15 : decode cX5_wide 15 = .ok (.iaload, 1) := by decide +kernel
theorem dX5_wide_16 : decode cX5_wide 16 = .ok (.goto 9, 3) := by decide +kernel
theorem dX5_wide_19 : decode cX5_wide 19 = .ok (.aload_n 0, 1) := by decide +kernel
theorem dX5_wide_20 : decode cX5_wide 20 = .ok (.getfield 35, 3) := by decide +kernel
theorem dX5_wide_23 : decode cX5_wide 23 = .ok (.iload_n 1, 1) := by decide +kernel
theorem dX5_wide_24 : decode cX5_wide 24 = .ok (.iaload, 1) := by decide +kernel
theorem dX5_wide_25 : decode cX5_wide 25 = .ok (.ireturn, 1) := by decide +kernel
theorem dX5_tall_0 : decode cX5_tall 0 = .ok (.aload_n 0, 1) := by decide +kernel
theorem dX5_tall_1 : decode cX5_tall 1 = .ok (.getfield 38, 3) := by decide +kernel
theorem dX5_tall_4 : decode cX5_tall 4 = .ok (.iload_n 1, 1) := by decide +kernel
theorem dX5_tall_5 : decode cX5_tall 5 = .ok (.iaload, 1) := by decide +kernel
theorem dX5_tall_6 : decode cX5_tall 6 = .ok (.iconst 1, 1) := by decide +kernel
theorem dX5_tall_7 : decode cX5_tall 7 = .ok (.if_icmp .ne 12, 3) := by decide +kernel
theorem dX5_tall_10 : decode cX5_tall 10 = .ok (.aload_n 0, 1) := by decide +kernel
theorem dX5_tall_11 : decode cX5_tall 11 = .ok (.getfield 35, 3) := by decide +kernel
theorem dX5_tall_14 : decode cX5_tall 14 = .ok (.iload_n 1, 1) := by decide +kernel
theorem dX5_tall_15 : decode cX5_tall 15 = .ok (.iaload, 1) := by decide +kernel
theorem dX5_tall_16 : decode cX5_tall 16 = .ok (.goto 9, 3) := by decide +kernel
theorem dX5_tall_19 : decode cX5_tall 19 = .ok (.aload_n 0, 1) := by decide +kernel
theorem dX5_tall_20 : decode cX5_tall 20 = .ok (.getfield 29, 3) := by decide +kernel
theorem dX5_tall_23 : decode cX5_tall 23 = .ok (.iload_n 1, 1) := by decide +kernel
theorem dX5_tall_24 : decode cX5_tall 24 = .ok (.iaload, 1) := by decide +kernel
theorem dX5_tall_25 : decode cX5_tall 25 = .ok (.ireturn, 1) := by decide +kernel
theorem dX5_shelfFor_0 : decode cX5_shelfFor 0 = .ok (.iconst (-1), 1) := by decide +kernel
theorem dX5_shelfFor_1 : decode cX5_shelfFor 1 = .ok (.istore_n 2, 1) := by decide +kernel
theorem dX5_shelfFor_2 : decode cX5_shelfFor 2 = .ok (.iconst 0, 1) := by decide +kernel
theorem dX5_shelfFor_3 : decode cX5_shelfFor 3 = .ok (.istore_n 3, 1) := by decide +kernel
theorem dX5_shelfFor_4 : decode cX5_shelfFor 4 = .ok (.iload_n 3, 1) := by decide +kernel
theorem dX5_shelfFor_5 : decode cX5_shelfFor 5 = .ok (.aload_n 0, 1) := by decide +kernel
theorem dX5_shelfFor_6 : decode cX5_shelfFor 6 = .ok (.getfield 128, 3) := by decide +kernel
theorem dX5_shelfFor_9 : decode cX5_shelfFor 9 = .ok (.if_icmp .ge 119, 3) := by decide +kernel
theorem dX5_shelfFor_12 : decode cX5_shelfFor 12 = .ok (.aload_n 0, 1) := by decide +kernel
theorem dX5_shelfFor_13 : decode cX5_shelfFor 13 = .ok (.getfield 50, 3) := by decide +kernel
theorem dX5_shelfFor_16 : decode cX5_shelfFor 16 = .ok (.iload_n 3, 1) := by decide +kernel
theorem dX5_shelfFor_17 : decode cX5_shelfFor 17 = .ok (.iaload, 1) := by decide +kernel
theorem dX5_shelfFor_18 : decode cX5_shelfFor 18 = .ok (.aload_n 0, 1) := by decide +kernel
theorem dX5_shelfFor_19 : decode cX5_shelfFor 19 = .ok (.iload_n 1, 1) := by decide +kernel
theorem dX5_shelfFor_20 : decode cX5_shelfFor 20 = .ok (.invokevirtual 131, 3) := by decide +kernel
theorem dX5_shelfFor_23 : decode cX5_shelfFor 23 = .ok (.if_icmp .lt 24, 3) := by decide +kernel
theorem dX5_shelfFor_26 : decode cX5_shelfFor 26 = .ok (.aload_n 0, 1) := by decide +kernel
theorem dX5_shelfFor_27 : decode cX5_shelfFor 27 = .ok (.getfield 53, 3) := by decide +kernel
theorem dX5_shelfFor_30 : decode cX5_shelfFor 30 = .ok (.iload_n 3, 1) := by decide +kernel
theorem dX5_shelfFor_31 : decode cX5_shelfFor 31 = .ok (.iaload, 1) := by decide +kernel
theorem dX5_shelfFor_32 : decode cX5_shelfFor 32 = .ok (.aload_n 0, 1) := by decide +kernel
theorem dX5_shelfFor_33 : decode cX5_shelfFor 33 = .ok (.iload_n 1, 1) := by decide +kernel
theorem dX5_shelfFor_34 : decode cX5_shelfFor 34 = .ok (.invokevirtual 135, 3) := by decide +kernel
theorem dX5_shelfFor_37 : decode cX5_shelfFor 37 = .ok (.iadd, 1) := by decide +kernel
theorem dX5_shelfFor_38 : decode cX5_shelfFor 38 = .ok (.bipush 40, 2) := by decide +kernel
theorem dX5_shelfFor_40 : decode cX5_shelfFor 40 = .ok (.if_icmp .gt 7, 3) := by decide +kernel
theorem dX5_shelfFor_43 : decode cX5_shelfFor 43 = .ok (.iconst 1, 1) := by decide +kernel
theorem dX5_shelfFor_44 : decode cX5_shelfFor 44 = .ok (.goto 4, 3) := by decide +kernel
theorem dX5_shelfFor_47 : decode cX5_shelfFor 47 = .ok (.iconst 0, 1) := by decide +kernel
theorem dX5_shelfFor_48 : decode cX5_shelfFor 48 = .ok (.istore 4, 2) := by decide +kernel
theorem dX5_shelfFor_50 : decode cX5_shelfFor 50 = .ok (.iload_n 2, 1) := by decide +kernel
theorem dX5_shelfFor_51 : decode cX5_shelfFor 51 = .ok (.ifCond .lt 48, 3) := by decide +kernel
theorem dX5_shelfFor_54 : decode cX5_shelfFor 54 = .ok (.aload_n 0, 1) := by decide +kernel
theorem dX5_shelfFor_55 : decode cX5_shelfFor 55 = .ok (.getfield 44, 3) := by decide +kernel
theorem dX5_shelfFor_58 : decode cX5_shelfFor 58 = .ok (.iload_n 3, 1) := by decide +kernel
theorem dX5_shelfFor_59 : decode cX5_shelfFor 59 = .ok (.iaload, 1) := by decide +kernel
theorem dX5_shelfFor_60 : decode cX5_shelfFor 60 = .ok (.aload_n 0, 1) := by decide +kernel
theorem dX5_shelfFor_61 : decode cX5_shelfFor 61 = .ok (.getfield 44, 3) := by decide +kernel
theorem dX5_shelfFor_64 : decode cX5_shelfFor 64 = .ok (.iload_n 2, 1) := by decide +kernel
theorem dX5_shelfFor_65 : decode cX5_shelfFor 65 = .ok (.iaload, 1) := by decide +kernel
theorem dX5_shelfFor_66 : decode cX5_shelfFor 66 = .ok (.if_icmp .lt 33, 3) := by decide +kernel
theorem dX5_shelfFor_69 : decode cX5_shelfFor 69 = .ok (.aload_n 0, 1) := by decide +kernel
theorem dX5_shelfFor_70 : decode cX5_shelfFor 70 = .ok (.getfield 44, 3) := by decide +kernel
theorem dX5_shelfFor_73 : decode cX5_shelfFor 73 = .ok (.iload_n 3, 1) := by decide +kernel
theorem dX5_shelfFor_74 : decode cX5_shelfFor 74 = .ok (.iaload, 1) := by decide +kernel
theorem dX5_shelfFor_75 : decode cX5_shelfFor 75 = .ok (.aload_n 0, 1) := by decide +kernel
theorem dX5_shelfFor_76 : decode cX5_shelfFor 76 = .ok (.getfield 44, 3) := by decide +kernel
theorem dX5_shelfFor_79 : decode cX5_shelfFor 79 = .ok (.iload_n 2, 1) := by decide +kernel
theorem dX5_shelfFor_80 : decode cX5_shelfFor 80 = .ok (.iaload, 1) := by decide +kernel
theorem dX5_shelfFor_81 : decode cX5_shelfFor 81 = .ok (.if_icmp .ne 22, 3) := by decide +kernel
theorem dX5_shelfFor_84 : decode cX5_shelfFor 84 = .ok (.aload_n 0, 1) := by decide +kernel
theorem dX5_shelfFor_85 : decode cX5_shelfFor 85 = .ok (.getfield 47, 3) := by decide +kernel
theorem dX5_shelfFor_88 : decode cX5_shelfFor 88 = .ok (.iload_n 3, 1) := by decide +kernel
theorem dX5_shelfFor_89 : decode cX5_shelfFor 89 = .ok (.iaload, 1) := by decide +kernel
theorem dX5_shelfFor_90 : decode cX5_shelfFor 90 = .ok (.aload_n 0, 1) := by decide +kernel
theorem dX5_shelfFor_91 : decode cX5_shelfFor 91 = .ok (.getfield 47, 3) := by decide +kernel
theorem dX5_shelfFor_94 : decode cX5_shelfFor 94 = .ok (.iload_n 2, 1) := by decide +kernel
theorem dX5_shelfFor_95 : decode cX5_shelfFor 95 = .ok (.iaload, 1) := by decide +kernel
theorem dX5_shelfFor_96 : decode cX5_shelfFor 96 = .ok (.if_icmp .ge 7, 3) := by decide +kernel
theorem dX5_shelfFor_99 : decode cX5_shelfFor 99 = .ok (.iconst 1, 1) := by decide +kernel
theorem dX5_shelfFor_100 : decode cX5_shelfFor 100 = .ok (.goto 4, 3) := by decide +kernel
theorem dX5_shelfFor_103 : decode cX5_shelfFor 103 = .ok (.iconst 0, 1) := by decide +kernel
theorem dX5_shelfFor_104 : decode cX5_shelfFor 104 = .ok (.istore 5, 2) := by decide +kernel
theorem dX5_shelfFor_106 : decode cX5_shelfFor 106 = .ok (.iload 4, 2) := by decide +kernel
theorem dX5_shelfFor_108 : decode cX5_shelfFor 108 = .ok (.ifCond .eq 12, 3) := by decide +kernel
theorem dX5_shelfFor_111 : decode cX5_shelfFor 111 = .ok (.iload 5, 2) := by decide +kernel
theorem dX5_shelfFor_113 : decode cX5_shelfFor 113 = .ok (.ifCond .eq 7, 3) := by decide +kernel
theorem dX5_shelfFor_116 : decode cX5_shelfFor 116 = .ok (.iload_n 3, 1) := by decide +kernel
theorem dX5_shelfFor_117 : decode cX5_shelfFor 117 = .ok (.goto 4, 3) := by decide +kernel
theorem dX5_shelfFor_120 : decode cX5_shelfFor 120 = .ok (.iload_n 2, 1) := by decide +kernel
theorem dX5_shelfFor_121 : decode cX5_shelfFor 121 = .ok (.istore_n 2, 1) := by decide +kernel
theorem dX5_shelfFor_122 : decode cX5_shelfFor 122 = .ok (.iinc 3 1, 3) := by decide +kernel
theorem dX5_shelfFor_125 : decode cX5_shelfFor 125 = .ok (.goto (-121), 3) := by decide +kernel
theorem dX5_shelfFor_128 : decode cX5_shelfFor 128 = .ok (.iload_n 2, 1) := by decide +kernel
theorem dX5_shelfFor_129 : decode cX5_shelfFor 129 = .ok (.ireturn, 1) := by decide +kernel
theorem dX5_newShelf_0 : decode cX5_newShelf 0 = .ok (.iconst 0, 1) := by decide +kernel
theorem dX5_newShelf_1 : decode cX5_newShelf 1 = .ok (.istore_n 2, 1) := by decide +kernel
theorem dX5_newShelf_2 : decode cX5_newShelf 2 = .ok (.iload_n 2, 1) := by decide +kernel
theorem dX5_newShelf_3 : decode cX5_newShelf 3 = .ok (.aload_n 0, 1) := by decide +kernel
theorem dX5_newShelf_4 : decode cX5_newShelf 4 = .ok (.getfield 138, 3) := by decide +kernel
theorem dX5_newShelf_7 : decode cX5_newShelf 7 = .ok (.if_icmp .ge 26, 3) := by decide +kernel
theorem dX5_newShelf_10 : decode cX5_newShelf 10 = .ok (.aload_n 0, 1) := by decide +kernel
theorem dX5_newShelf_11 : decode cX5_newShelf 11 = .ok (.getfield 56, 3) := by decide +kernel
theorem dX5_newShelf_14 : decode cX5_newShelf 14 = .ok (.iload_n 2, 1) := by decide +kernel
theorem dX5_newShelf_15 : decode cX5_newShelf 15 = .ok (.iaload, 1) := by decide +kernel
theorem dX5_newShelf_16 : decode cX5_newShelf 16 = .ok (.aload_n 0, 1) := by decide +kernel
theorem dX5_newShelf_17 : decode cX5_newShelf 17 = .ok (.iload_n 1, 1) := by decide +kernel
theorem dX5_newShelf_18 : decode cX5_newShelf 18 = .ok (.invokevirtual 131, 3) := by decide +kernel
theorem dX5_newShelf_21 : decode cX5_newShelf 21 = .ok (.iadd, 1) := by decide +kernel
theorem dX5_newShelf_22 : decode cX5_newShelf 22 = .ok (.bipush 30, 2) := by decide +kernel
theorem dX5_newShelf_24 : decode cX5_newShelf 24 = .ok (.if_icmp .le 9, 3) := by decide +kernel
theorem dX5_newShelf_27 : decode cX5_newShelf 27 = .ok (.iinc 2 1, 3) := by decide +kernel
theorem dX5_newShelf_30 : decode cX5_newShelf 30 = .ok (.goto (-28), 3) := by decide +kernel
theorem dX5_newShelf_33 : decode cX5_newShelf 33 = .ok (.iload_n 2, 1) := by decide +kernel
theorem dX5_newShelf_34 : decode cX5_newShelf 34 = .ok (.aload_n 0, 1) := by decide +kernel
theorem dX5_newShelf_35 : decode cX5_newShelf 35 = .ok (.getfield 138, 3) := by decide +kernel
theorem dX5_newShelf_38 : decode cX5_newShelf 38 = .ok (.if_icmp .ne 20, 3) := by decide +kernel
theorem dX5_newShelf_41 : decode cX5_newShelf 41 = .ok (.aload_n 0, 1) := by decide +kernel
theorem dX5_newShelf_42 : decode cX5_newShelf 42 = .ok (.getfield 56, 3) := by decide +kernel
theorem dX5_newShelf_45 : decode cX5_newShelf 45 = .ok (.iload_n 2, 1) := by decide +kernel
theorem dX5_newShelf_46 : decode cX5_newShelf 46 = .ok (.iconst 0, 1) := by decide +kernel
theorem dX5_newShelf_47 : decode cX5_newShelf 47 = .ok (.iastore, 1) := by decide +kernel
theorem dX5_newShelf_48 : decode cX5_newShelf 48 = .ok (.aload_n 0, 1) := by decide +kernel
theorem dX5_newShelf_49 : decode cX5_newShelf 49 = .ok (.dup, 1) := by decide +kernel
theorem dX5_newShelf_50 : decode cX5_newShelf 50 = .ok (.getfield 138, 3) := by decide +kernel
theorem dX5_newShelf_53 : decode cX5_newShelf 53 = .ok (.iconst 1, 1) := by decide +kernel
theorem dX5_newShelf_54 : decode cX5_newShelf 54 = .ok (.iadd, 1) := by decide +kernel
theorem dX5_newShelf_55 : decode cX5_newShelf 55 = .ok (.putfield 138, 3) := by decide +kernel
theorem dX5_newShelf_58 : decode cX5_newShelf 58 = .ok (.aload_n 0, 1) := by decide +kernel
theorem dX5_newShelf_59 : decode cX5_newShelf 59 = .ok (.getfield 44, 3) := by decide +kernel
theorem dX5_newShelf_62 : decode cX5_newShelf 62 = .ok (.aload_n 0, 1) := by decide +kernel
theorem dX5_newShelf_63 : decode cX5_newShelf 63 = .ok (.getfield 128, 3) := by decide +kernel
theorem dX5_newShelf_66 : decode cX5_newShelf 66 = .ok (.iload_n 2, 1) := by decide +kernel
theorem dX5_newShelf_67 : decode cX5_newShelf 67 = .ok (.iastore, 1) := by decide +kernel
theorem dX5_newShelf_68 : decode cX5_newShelf 68 = .ok (.aload_n 0, 1) := by decide +kernel
theorem dX5_newShelf_69 : decode cX5_newShelf 69 = .ok (.getfield 47, 3) := by decide +kernel
theorem dX5_newShelf_72 : decode cX5_newShelf 72 = .ok (.aload_n 0, 1) := by decide +kernel
theorem dX5_newShelf_73 : decode cX5_newShelf 73 = .ok (.getfield 128, 3) := by decide +kernel
theorem dX5_newShelf_76 : decode cX5_newShelf 76 = .ok (.aload_n 0, 1) := by decide +kernel
theorem dX5_newShelf_77 : decode cX5_newShelf 77 = .ok (.getfield 56, 3) := by decide +kernel
theorem dX5_newShelf_80 : decode cX5_newShelf 80 = .ok (.iload_n 2, 1) := by decide +kernel
theorem dX5_newShelf_81 : decode cX5_newShelf 81 = .ok (.iaload, 1) := by decide +kernel
theorem dX5_newShelf_82 : decode cX5_newShelf 82 = .ok (.iastore, 1) := by decide +kernel
theorem dX5_newShelf_83 : decode cX5_newShelf 83 = .ok (.aload_n 0, 1) := by decide +kernel
theorem dX5_newShelf_84 : decode cX5_newShelf 84 = .ok (.getfield 50, 3) := by decide +kernel
theorem dX5_newShelf_87 : decode cX5_newShelf 87 = .ok (.aload_n 0, 1) := by decide +kernel
theorem dX5_newShelf_88 : decode cX5_newShelf 88 = .ok (.getfield 128, 3) := by decide +kernel
theorem dX5_newShelf_91 : decode cX5_newShelf 91 = .ok (.aload_n 0, 1) := by decide +kernel
theorem dX5_newShelf_92 : decode cX5_newShelf 92 = .ok (.iload_n 1, 1) := by decide +kernel
theorem dX5_newShelf_93 : decode cX5_newShelf 93 = .ok (.invokevirtual 131, 3) := by decide +kernel
theorem dX5_newShelf_96 : decode cX5_newShelf 96 = .ok (.iastore, 1) := by decide +kernel
theorem dX5_newShelf_97 : decode cX5_newShelf 97 = .ok (.aload_n 0, 1) := by decide +kernel
theorem dX5_newShelf_98 : decode cX5_newShelf 98 = .ok (.getfield 53, 3) := by decide +kernel
theorem dX5_newShelf_101 : decode cX5_newShelf 101 = .ok (.aload_n 0, 1) := by decide +kernel
theorem dX5_newShelf_102 : decode cX5_newShelf 102 = .ok (.getfield 128, 3) := by decide +kernel
theorem dX5_newShelf_105 : decode cX5_newShelf 105 = .ok (.iconst 0, 1) := by decide +kernel
theorem dX5_newShelf_106 : decode cX5_newShelf 106 = .ok (.iastore, 1) := by decide +kernel
theorem dX5_newShelf_107 : decode cX5_newShelf 107 = .ok (.aload_n 0, 1) := by decide +kernel
theorem dX5_newShelf_108 : decode cX5_newShelf 108 = .ok (.getfield 56, 3) := by decide +kernel
theorem dX5_newShelf_111 : decode cX5_newShelf 111 = .ok (.iload_n 2, 1) := by decide +kernel
theorem dX5_newShelf_112 : decode cX5_newShelf 112 = .ok (.dup2, 1) := by decide +kernel
theorem dX5_newShelf_113 : decode cX5_newShelf 113 = .ok (.iaload, 1) := by decide +kernel
theorem dX5_newShelf_114 : decode cX5_newShelf 114 = .ok (.aload_n 0, 1) := by decide +kernel
theorem dX5_newShelf_115 : decode cX5_newShelf 115 = .ok (.iload_n 1, 1) := by decide +kernel
theorem dX5_newShelf_116 : decode cX5_newShelf 116 = .ok (.invokevirtual 131, 3) := by decide +kernel
theorem dX5_newShelf_119 : decode cX5_newShelf 119 = .ok (.iadd, 1) := by decide +kernel
theorem dX5_newShelf_120 : decode cX5_newShelf 120 = .ok (.iastore, 1) := by decide +kernel
theorem dX5_newShelf_121 : decode cX5_newShelf 121 = .ok (.aload_n 0, 1) := by decide +kernel
theorem dX5_newShelf_122 : decode cX5_newShelf 122 = .ok (.dup, 1) := by decide +kernel
theorem dX5_newShelf_123 : decode cX5_newShelf 123 = .ok (.getfield 128, 3) := by decide +kernel
theorem dX5_newShelf_126 : decode cX5_newShelf 126 = .ok (.iconst 1, 1) := by decide +kernel
theorem dX5_newShelf_127 : decode cX5_newShelf 127 = .ok (.iadd, 1) := by decide +kernel
theorem dX5_newShelf_128 : decode cX5_newShelf 128 = .ok (.putfield 128, 3) := by decide +kernel
theorem dX5_newShelf_131 : decode cX5_newShelf 131 = .ok (.aload_n 0, 1) := by decide +kernel
theorem dX5_newShelf_132 : decode cX5_newShelf 132 = .ok (.getfield 128, 3) := by decide +kernel
theorem dX5_newShelf_135 : decode cX5_newShelf 135 = .ok (.iconst 1, 1) := by decide +kernel
theorem dX5_newShelf_136 : decode cX5_newShelf 136 = .ok (.isub, 1) := by decide +kernel
theorem dX5_newShelf_137 : decode cX5_newShelf 137 = .ok (.ireturn, 1) := by decide +kernel
theorem dX5_lays_0 : decode cX5_lays 0 = .ok (.aload_n 0, 1) := by decide +kernel
theorem dX5_lays_1 : decode cX5_lays 1 = .ok (.iconst 0, 1) := by decide +kernel
theorem dX5_lays_2 : decode cX5_lays 2 = .ok (.putfield 128, 3) := by decide +kernel
theorem dX5_lays_5 : decode cX5_lays 5 = .ok (.aload_n 0, 1) := by decide +kernel
theorem dX5_lays_6 : decode cX5_lays 6 = .ok (.iconst 0, 1) := by decide +kernel
theorem dX5_lays_7 : decode cX5_lays 7 = .ok (.putfield 138, 3) := by decide +kernel
theorem dX5_lays_10 : decode cX5_lays 10 = .ok (.iconst 0, 1) := by decide +kernel
theorem dX5_lays_11 : decode cX5_lays 11 = .ok (.istore_n 1, 1) := by decide +kernel
theorem dX5_lays_12 : decode cX5_lays 12 = .ok (.iload_n 1, 1) := by decide +kernel
theorem dX5_lays_13 : decode cX5_lays 13 = .ok (.aload_n 0, 1) := by decide +kernel
theorem dX5_lays_14 : decode cX5_lays 14 = .ok (.getfield 78, 3) := by decide +kernel
theorem dX5_lays_17 : decode cX5_lays 17 = .ok (.if_icmp .ge 79, 3) := by decide +kernel
theorem dX5_lays_20 : decode cX5_lays 20 = .ok (.aload_n 0, 1) := by decide +kernel
theorem dX5_lays_21 : decode cX5_lays 21 = .ok (.iload_n 1, 1) := by decide +kernel
theorem dX5_lays_22 : decode cX5_lays 22 = .ok (.invokevirtual 141, 3) := by decide +kernel
theorem dX5_lays_25 : decode cX5_lays 25 = .ok (.istore_n 2, 1) := by decide +kernel
theorem dX5_lays_26 : decode cX5_lays 26 = .ok (.iload_n 2, 1) := by decide +kernel
theorem dX5_lays_27 : decode cX5_lays 27 = .ok (.ifCond .ge 11, 3) := by decide +kernel
theorem dX5_lays_30 : decode cX5_lays 30 = .ok (.aload_n 0, 1) := by decide +kernel
theorem dX5_lays_31 : decode cX5_lays 31 = .ok (.iload_n 1, 1) := by decide +kernel
theorem dX5_lays_32 : decode cX5_lays 32 = .ok (.invokevirtual 144, 3) := by decide +kernel
theorem dX5_lays_35 : decode cX5_lays 35 = .ok (.goto 4, 3) := by decide +kernel
theorem dX5_lays_38 : decode cX5_lays 38 = .ok (.iload_n 2, 1) := by decide +kernel
theorem dX5_lays_39 : decode cX5_lays 39 = .ok (.istore_n 2, 1) := by decide +kernel
theorem dX5_lays_40 : decode cX5_lays 40 = .ok (.aload_n 0, 1) := by decide +kernel
theorem dX5_lays_41 : decode cX5_lays 41 = .ok (.getfield 59, 3) := by decide +kernel
theorem dX5_lays_44 : decode cX5_lays 44 = .ok (.iload_n 1, 1) := by decide +kernel
theorem dX5_lays_45 : decode cX5_lays 45 = .ok (.aload_n 0, 1) := by decide +kernel
theorem dX5_lays_46 : decode cX5_lays 46 = .ok (.getfield 44, 3) := by decide +kernel
theorem dX5_lays_49 : decode cX5_lays 49 = .ok (.iload_n 2, 1) := by decide +kernel
theorem dX5_lays_50 : decode cX5_lays 50 = .ok (.iaload, 1) := by decide +kernel
theorem dX5_lays_51 : decode cX5_lays 51 = .ok (.iastore, 1) := by decide +kernel
theorem dX5_lays_52 : decode cX5_lays 52 = .ok (.aload_n 0, 1) := by decide +kernel
theorem dX5_lays_53 : decode cX5_lays 53 = .ok (.getfield 62, 3) := by decide +kernel
theorem dX5_lays_56 : decode cX5_lays 56 = .ok (.iload_n 1, 1) := by decide +kernel
theorem dX5_lays_57 : decode cX5_lays 57 = .ok (.aload_n 0, 1) := by decide +kernel
theorem dX5_lays_58 : decode cX5_lays 58 = .ok (.getfield 53, 3) := by decide +kernel
theorem dX5_lays_61 : decode cX5_lays 61 = .ok (.iload_n 2, 1) := by decide +kernel
theorem dX5_lays_62 : decode cX5_lays 62 = .ok (.iaload, 1) := by decide +kernel
theorem dX5_lays_63 : decode cX5_lays 63 = .ok (.iastore, 1) := by decide +kernel
theorem dX5_lays_64 : decode cX5_lays 64 = .ok (.aload_n 0, 1) := by decide +kernel
theorem dX5_lays_65 : decode cX5_lays 65 = .ok (.getfield 65, 3) := by decide +kernel
theorem dX5_lays_68 : decode cX5_lays 68 = .ok (.iload_n 1, 1) := by decide +kernel
theorem dX5_lays_69 : decode cX5_lays 69 = .ok (.aload_n 0, 1) := by decide +kernel
theorem dX5_lays_70 : decode cX5_lays 70 = .ok (.getfield 47, 3) := by decide +kernel
theorem dX5_lays_73 : decode cX5_lays 73 = .ok (.iload_n 2, 1) := by decide +kernel
theorem dX5_lays_74 : decode cX5_lays 74 = .ok (.iaload, 1) := by decide +kernel
theorem dX5_lays_75 : decode cX5_lays 75 = .ok (.iastore, 1) := by decide +kernel
theorem dX5_lays_76 : decode cX5_lays 76 = .ok (.aload_n 0, 1) := by decide +kernel
theorem dX5_lays_77 : decode cX5_lays 77 = .ok (.getfield 53, 3) := by decide +kernel
theorem dX5_lays_80 : decode cX5_lays 80 = .ok (.iload_n 2, 1) := by decide +kernel
theorem dX5_lays_81 : decode cX5_lays 81 = .ok (.dup2, 1) := by decide +kernel
theorem dX5_lays_82 : decode cX5_lays 82 = .ok (.iaload, 1) := by decide +kernel
theorem dX5_lays_83 : decode cX5_lays 83 = .ok (.aload_n 0, 1) := by decide +kernel
theorem dX5_lays_84 : decode cX5_lays 84 = .ok (.iload_n 1, 1) := by decide +kernel
theorem dX5_lays_85 : decode cX5_lays 85 = .ok (.invokevirtual 135, 3) := by decide +kernel
theorem dX5_lays_88 : decode cX5_lays 88 = .ok (.iadd, 1) := by decide +kernel
theorem dX5_lays_89 : decode cX5_lays 89 = .ok (.iastore, 1) := by decide +kernel
theorem dX5_lays_90 : decode cX5_lays 90 = .ok (.iinc 1 1, 3) := by decide +kernel
theorem dX5_lays_93 : decode cX5_lays 93 = .ok (.goto (-81), 3) := by decide +kernel
theorem dX5_lays_96 : decode cX5_lays 96 = .ok (.return_, 1) := by decide +kernel
theorem dX5_sheets_0 : decode cX5_sheets 0 = .ok (.aload_n 0, 1) := by decide +kernel
theorem dX5_sheets_1 : decode cX5_sheets 1 = .ok (.iconst 0, 1) := by decide +kernel
theorem dX5_sheets_2 : decode cX5_sheets 2 = .ok (.invokevirtual 100, 3) := by decide +kernel
theorem dX5_sheets_5 : decode cX5_sheets 5 = .ok (.pop, 1) := by decide +kernel
theorem dX5_sheets_6 : decode cX5_sheets 6 = .ok (.aload_n 0, 1) := by decide +kernel
theorem dX5_sheets_7 : decode cX5_sheets 7 = .ok (.invokevirtual 147, 3) := by decide +kernel
theorem dX5_sheets_10 : decode cX5_sheets 10 = .ok (.aload_n 0, 1) := by decide +kernel
theorem dX5_sheets_11 : decode cX5_sheets 11 = .ok (.getfield 138, 3) := by decide +kernel
theorem dX5_sheets_14 : decode cX5_sheets 14 = .ok (.ireturn, 1) := by decide +kernel
theorem dX5_laid_0 : decode cX5_laid 0 = .ok (.aload_n 0, 1) := by decide +kernel
theorem dX5_laid_1 : decode cX5_laid 1 = .ok (.aload_n 0, 1) := by decide +kernel
theorem dX5_laid_2 : decode cX5_laid 2 = .ok (.iload_n 1, 1) := by decide +kernel
theorem dX5_laid_3 : decode cX5_laid 3 = .ok (.invokevirtual 122, 3) := by decide +kernel
theorem dX5_laid_6 : decode cX5_laid 6 = .ok (.ifCond .ne 7, 3) := by decide +kernel
theorem dX5_laid_9 : decode cX5_laid 9 = .ok (.iconst 1, 1) := by decide +kernel
theorem dX5_laid_10 : decode cX5_laid 10 = .ok (.goto 18, 3) := by decide +kernel
theorem dX5_laid_13 : decode cX5_laid 13 = .ok (.aload_n 0, 1) := by decide +kernel
theorem dX5_laid_14 : decode cX5_laid 14 = .ok (.iload_n 2, 1) := by decide +kernel
theorem dX5_laid_15 : decode cX5_laid 15 = .ok (.iconst 0, 1) := by decide +kernel
theorem dX5_laid_16 : decode cX5_laid 16 = .ok (.iconst 2, 1) := by decide +kernel
theorem dX5_laid_17 : decode cX5_laid 17 = .ok (.invokevirtual 74, 3) := by decide +kernel
theorem dX5_laid_20 : decode cX5_laid 20 = .ok (.ifCond .eq 7, 3) := by decide +kernel
theorem dX5_laid_23 : decode cX5_laid 23 = .ok (.iconst 0, 1) := by decide +kernel
theorem dX5_laid_24 : decode cX5_laid 24 = .ok (.goto 4, 3) := by decide +kernel
theorem dX5_laid_27 : decode cX5_laid 27 = .ok (.iconst 2, 1) := by decide +kernel
theorem dX5_laid_28 : decode cX5_laid 28 = .ok (.invokevirtual 100, 3) := by decide +kernel
theorem dX5_laid_31 : decode cX5_laid 31 = .ok (.ifCond .eq 5, 3) := by decide +kernel
theorem dX5_laid_34 : decode cX5_laid 34 = .ok (.iconst (-1), 1) := by decide +kernel
theorem dX5_laid_35 : decode cX5_laid 35 = .ok (.ireturn, 1) := by decide +kernel
theorem dX5_laid_36 : decode cX5_laid 36 = .ok (.aload_n 0, 1) := by decide +kernel
theorem dX5_laid_37 : decode cX5_laid 37 = .ok (.invokevirtual 147, 3) := by decide +kernel
theorem dX5_laid_40 : decode cX5_laid 40 = .ok (.iload_n 2, 1) := by decide +kernel
theorem dX5_laid_41 : decode cX5_laid 41 = .ok (.ifCond .ne 12, 3) := by decide +kernel
theorem dX5_laid_44 : decode cX5_laid 44 = .ok (.aload_n 0, 1) := by decide +kernel
theorem dX5_laid_45 : decode cX5_laid 45 = .ok (.getfield 59, 3) := by decide +kernel
theorem dX5_laid_48 : decode cX5_laid 48 = .ok (.iload_n 1, 1) := by decide +kernel
theorem dX5_laid_49 : decode cX5_laid 49 = .ok (.iaload, 1) := by decide +kernel
theorem dX5_laid_50 : decode cX5_laid 50 = .ok (.goto 23, 3) := by decide +kernel
theorem dX5_laid_53 : decode cX5_laid 53 = .ok (.iload_n 2, 1) := by decide +kernel
theorem dX5_laid_54 : decode cX5_laid 54 = .ok (.iconst 1, 1) := by decide +kernel
theorem dX5_laid_55 : decode cX5_laid 55 = .ok (.if_icmp .ne 12, 3) := by decide +kernel
theorem dX5_laid_58 : decode cX5_laid 58 = .ok (.aload_n 0, 1) := by decide +kernel
theorem dX5_laid_59 : decode cX5_laid 59 = .ok (.getfield 62, 3) := by decide +kernel
theorem dX5_laid_62 : decode cX5_laid 62 = .ok (.iload_n 1, 1) := by decide +kernel
theorem dX5_laid_63 : decode cX5_laid 63 = .ok (.iaload, 1) := by decide +kernel
theorem dX5_laid_64 : decode cX5_laid 64 = .ok (.goto 9, 3) := by decide +kernel
theorem dX5_laid_67 : decode cX5_laid 67 = .ok (.aload_n 0, 1) := by decide +kernel
theorem dX5_laid_68 : decode cX5_laid 68 = .ok (.getfield 65, 3) := by decide +kernel
theorem dX5_laid_71 : decode cX5_laid 71 = .ok (.iload_n 1, 1) := by decide +kernel
theorem dX5_laid_72 : decode cX5_laid 72 = .ok (.iaload, 1) := by decide +kernel
theorem dX5_laid_73 : decode cX5_laid 73 = .ok (.ireturn, 1) := by decide +kernel
theorem dX5_stepOf_0 : decode cX5_stepOf 0 = .ok (.iconst (-1), 1) := by decide +kernel
theorem dX5_stepOf_1 : decode cX5_stepOf 1 = .ok (.istore_n 2, 1) := by decide +kernel
theorem dX5_stepOf_2 : decode cX5_stepOf 2 = .ok (.iconst 0, 1) := by decide +kernel
theorem dX5_stepOf_3 : decode cX5_stepOf 3 = .ok (.istore_n 3, 1) := by decide +kernel
theorem dX5_stepOf_4 : decode cX5_stepOf 4 = .ok (.iload_n 3, 1) := by decide +kernel
theorem dX5_stepOf_5 : decode cX5_stepOf 5 = .ok (.aload_n 0, 1) := by decide +kernel
theorem dX5_stepOf_6 : decode cX5_stepOf 6 = .ok (.getfield 85, 3) := by decide +kernel
theorem dX5_stepOf_9 : decode cX5_stepOf 9 = .ok (.if_icmp .ge 25, 3) := by decide +kernel
theorem dX5_stepOf_12 : decode cX5_stepOf 12 = .ok (.aload_n 0, 1) := by decide +kernel
theorem dX5_stepOf_13 : decode cX5_stepOf 13 = .ok (.getfield 41, 3) := by decide +kernel
theorem dX5_stepOf_16 : decode cX5_stepOf 16 = .ok (.iload_n 3, 1) := by decide +kernel
theorem dX5_stepOf_17 : decode cX5_stepOf 17 = .ok (.iaload, 1) := by decide +kernel
theorem dX5_stepOf_18 : decode cX5_stepOf 18 = .ok (.iload_n 1, 1) := by decide +kernel
theorem dX5_stepOf_19 : decode cX5_stepOf 19 = .ok (.if_icmp .ne 7, 3) := by decide +kernel
theorem dX5_stepOf_22 : decode cX5_stepOf 22 = .ok (.iload_n 3, 1) := by decide +kernel
theorem dX5_stepOf_23 : decode cX5_stepOf 23 = .ok (.goto 4, 3) := by decide +kernel
theorem dX5_stepOf_26 : decode cX5_stepOf 26 = .ok (.iload_n 2, 1) := by decide +kernel
theorem dX5_stepOf_27 : decode cX5_stepOf 27 = .ok (.istore_n 2, 1) := by decide +kernel
theorem dX5_stepOf_28 : decode cX5_stepOf 28 = .ok (.iinc 3 1, 3) := by decide +kernel
theorem dX5_stepOf_31 : decode cX5_stepOf 31 = .ok (.goto (-27), 3) := by decide +kernel
theorem dX5_stepOf_34 : decode cX5_stepOf 34 = .ok (.iload_n 2, 1) := by decide +kernel
theorem dX5_stepOf_35 : decode cX5_stepOf 35 = .ok (.ireturn, 1) := by decide +kernel
theorem dX5_canGlue_0 : decode cX5_canGlue 0 = .ok (.aload_n 0, 1) := by decide +kernel
theorem dX5_canGlue_1 : decode cX5_canGlue 1 = .ok (.getfield 23, 3) := by decide +kernel
theorem dX5_canGlue_4 : decode cX5_canGlue 4 = .ok (.iload_n 1, 1) := by decide +kernel
theorem dX5_canGlue_5 : decode cX5_canGlue 5 = .ok (.iaload, 1) := by decide +kernel
theorem dX5_canGlue_6 : decode cX5_canGlue 6 = .ok (.ifCond .ne 7, 3) := by decide +kernel
theorem dX5_canGlue_9 : decode cX5_canGlue 9 = .ok (.iconst 1, 1) := by decide +kernel
theorem dX5_canGlue_10 : decode cX5_canGlue 10 = .ok (.goto 4, 3) := by decide +kernel
theorem dX5_canGlue_13 : decode cX5_canGlue 13 = .ok (.iconst 0, 1) := by decide +kernel
theorem dX5_canGlue_14 : decode cX5_canGlue 14 = .ok (.istore_n 2, 1) := by decide +kernel
theorem dX5_canGlue_15 : decode cX5_canGlue 15 = .ok (.aload_n 0, 1) := by decide +kernel
theorem dX5_canGlue_16 : decode cX5_canGlue 16 = .ok (.iload_n 1, 1) := by decide +kernel
theorem dX5_canGlue_17 : decode cX5_canGlue 17 = .ok (.invokevirtual 150, 3) := by decide +kernel
theorem dX5_canGlue_20 : decode cX5_canGlue 20 = .ok (.ifCond .ge 7, 3) := by decide +kernel
theorem dX5_canGlue_23 : decode cX5_canGlue 23 = .ok (.iconst 1, 1) := by decide +kernel
theorem dX5_canGlue_24 : decode cX5_canGlue 24 = .ok (.goto 4, 3) := by decide +kernel
theorem dX5_canGlue_27 : decode cX5_canGlue 27 = .ok (.iconst 0, 1) := by decide +kernel
theorem dX5_canGlue_28 : decode cX5_canGlue 28 = .ok (.istore_n 3, 1) := by decide +kernel
theorem dX5_canGlue_29 : decode cX5_canGlue 29 = .ok (.iconst 0, 1) := by decide +kernel
theorem dX5_canGlue_30 : decode cX5_canGlue 30 = .ok (.istore 4, 2) := by decide +kernel
theorem dX5_canGlue_32 : decode cX5_canGlue 32 = .ok (.iload 4, 2) := by decide +kernel
theorem dX5_canGlue_34 : decode cX5_canGlue 34 = .ok (.aload_n 0, 1) := by decide +kernel
theorem dX5_canGlue_35 : decode cX5_canGlue 35 = .ok (.getfield 85, 3) := by decide +kernel
theorem dX5_canGlue_38 : decode cX5_canGlue 38 = .ok (.if_icmp .ge 101, 3) := by decide +kernel
theorem dX5_canGlue_41 : decode cX5_canGlue 41 = .ok (.aload_n 0, 1) := by decide +kernel
theorem dX5_canGlue_42 : decode cX5_canGlue 42 = .ok (.getfield 41, 3) := by decide +kernel
theorem dX5_canGlue_45 : decode cX5_canGlue 45 = .ok (.iload 4, 2) := by decide +kernel
theorem dX5_canGlue_47 : decode cX5_canGlue 47 = .ok (.iaload, 1) := by decide +kernel
theorem dX5_canGlue_48 : decode cX5_canGlue 48 = .ok (.istore 5, 2) := by decide +kernel
theorem dX5_canGlue_50 : decode cX5_canGlue 50 = .ok (.iload_n 2, 1) := by decide +kernel
theorem dX5_canGlue_51 : decode cX5_canGlue 51 = .ok (.aload_n 0, 1) := by decide +kernel
theorem dX5_canGlue_52 : decode cX5_canGlue 52 = .ok (.getfield 23, 3) := by decide +kernel
theorem dX5_canGlue_55 : decode cX5_canGlue 55 = .ok (.iload 5, 2) := by decide +kernel
theorem dX5_canGlue_57 : decode cX5_canGlue 57 = .ok (.iaload, 1) := by decide +kernel
theorem dX5_canGlue_58 : decode cX5_canGlue 58 = .ok (.aload_n 0, 1) := by decide +kernel
theorem dX5_canGlue_59 : decode cX5_canGlue 59 = .ok (.getfield 7, 3) := by decide +kernel
theorem dX5_canGlue_62 : decode cX5_canGlue 62 = .ok (.aload_n 0, 1) := by decide +kernel
theorem dX5_canGlue_63 : decode cX5_canGlue 63 = .ok (.getfield 23, 3) := by decide +kernel
theorem dX5_canGlue_66 : decode cX5_canGlue 66 = .ok (.iload_n 1, 1) := by decide +kernel
theorem dX5_canGlue_67 : decode cX5_canGlue 67 = .ok (.iaload, 1) := by decide +kernel
theorem dX5_canGlue_68 : decode cX5_canGlue 68 = .ok (.iaload, 1) := by decide +kernel
theorem dX5_canGlue_69 : decode cX5_canGlue 69 = .ok (.if_icmp .ne 7, 3) := by decide +kernel
theorem dX5_canGlue_72 : decode cX5_canGlue 72 = .ok (.iconst 1, 1) := by decide +kernel
theorem dX5_canGlue_73 : decode cX5_canGlue 73 = .ok (.goto 4, 3) := by decide +kernel
theorem dX5_canGlue_76 : decode cX5_canGlue 76 = .ok (.iconst 0, 1) := by decide +kernel
theorem dX5_canGlue_77 : decode cX5_canGlue 77 = .ok (.ior, 1) := by decide +kernel
theorem dX5_canGlue_78 : decode cX5_canGlue 78 = .ok (.istore_n 2, 1) := by decide +kernel
theorem dX5_canGlue_79 : decode cX5_canGlue 79 = .ok (.iload_n 3, 1) := by decide +kernel
theorem dX5_canGlue_80 : decode cX5_canGlue 80 = .ok (.aload_n 0, 1) := by decide +kernel
theorem dX5_canGlue_81 : decode cX5_canGlue 81 = .ok (.iload_n 1, 1) := by decide +kernel
theorem dX5_canGlue_82 : decode cX5_canGlue 82 = .ok (.iload 5, 2) := by decide +kernel
theorem dX5_canGlue_84 : decode cX5_canGlue 84 = .ok (.invokevirtual 112, 3) := by decide +kernel
theorem dX5_canGlue_87 : decode cX5_canGlue 87 = .ok (.ifCond .eq 39, 3) := by decide +kernel
theorem dX5_canGlue_90 : decode cX5_canGlue 90 = .ok (.aload_n 0, 1) := by decide +kernel
theorem dX5_canGlue_91 : decode cX5_canGlue 91 = .ok (.getfield 26, 3) := by decide +kernel
theorem dX5_canGlue_94 : decode cX5_canGlue 94 = .ok (.iload_n 1, 1) := by decide +kernel
theorem dX5_canGlue_95 : decode cX5_canGlue 95 = .ok (.iaload, 1) := by decide +kernel
theorem dX5_canGlue_96 : decode cX5_canGlue 96 = .ok (.aload_n 0, 1) := by decide +kernel
theorem dX5_canGlue_97 : decode cX5_canGlue 97 = .ok (.iload 5, 2) := by decide +kernel
theorem dX5_canGlue_99 : decode cX5_canGlue 99 = .ok (.sipush 180, 3) := by decide +kernel
theorem dX5_canGlue_102 : decode cX5_canGlue 102 = .ok (.invokevirtual 116, 3) := by decide +kernel
theorem dX5_canGlue_105 : decode cX5_canGlue 105 = .ok (.if_icmp .lt 21, 3) := by decide +kernel
theorem dX5_canGlue_108 : decode cX5_canGlue 108 = .ok (.aload_n 0, 1) := by decide +kernel
theorem dX5_canGlue_109 : decode cX5_canGlue 109 = .ok (.getfield 26, 3) := by decide +kernel
theorem dX5_canGlue_112 : decode cX5_canGlue 112 = .ok (.iload_n 1, 1) := by decide +kernel
theorem dX5_canGlue_113 : decode cX5_canGlue 113 = .ok (.iaload, 1) := by decide +kernel
theorem dX5_canGlue_114 : decode cX5_canGlue 114 = .ok (.aload_n 0, 1) := by decide +kernel
theorem dX5_canGlue_115 : decode cX5_canGlue 115 = .ok (.iload 5, 2) := by decide +kernel
theorem dX5_canGlue_117 : decode cX5_canGlue 117 = .ok (.sipush 180, 3) := by decide +kernel
theorem dX5_canGlue_120 : decode cX5_canGlue 120 = .ok (.invokevirtual 119, 3) := by decide +kernel
theorem dX5_canGlue_123 : decode cX5_canGlue 123 = .ok (.if_icmp .le 7, 3) := by decide +kernel
theorem dX5_canGlue_126 : decode cX5_canGlue 126 = .ok (.iconst 1, 1) := by decide +kernel
theorem dX5_canGlue_127 : decode cX5_canGlue 127 = .ok (.goto 4, 3) := by decide +kernel
theorem dX5_canGlue_130 : decode cX5_canGlue 130 = .ok (.iconst 0, 1) := by decide +kernel
theorem dX5_canGlue_131 : decode cX5_canGlue 131 = .ok (.iand, 1) := by decide +kernel
theorem dX5_canGlue_132 : decode cX5_canGlue 132 = .ok (.istore_n 3, 1) := by decide +kernel
theorem dX5_canGlue_133 : decode cX5_canGlue 133 = .ok (.iinc 4 1, 3) := by decide +kernel
theorem dX5_canGlue_136 : decode cX5_canGlue 136 = .ok (.goto (-104), 3) := by decide +kernel
theorem dX5_canGlue_139 : decode cX5_canGlue 139 = .ok (.iload_n 2, 1) := by decide +kernel
theorem dX5_canGlue_140 : decode cX5_canGlue 140 = .ok (.ifCond .eq 11, 3) := by decide +kernel
theorem dX5_canGlue_143 : decode cX5_canGlue 143 = .ok (.iload_n 3, 1) := by decide +kernel
theorem dX5_canGlue_144 : decode cX5_canGlue 144 = .ok (.ifCond .eq 7, 3) := by decide +kernel
theorem dX5_canGlue_147 : decode cX5_canGlue 147 = .ok (.iconst 1, 1) := by decide +kernel
theorem dX5_canGlue_148 : decode cX5_canGlue 148 = .ok (.goto 4, 3) := by decide +kernel
theorem dX5_canGlue_151 : decode cX5_canGlue 151 = .ok (.iconst 0, 1) := by decide +kernel
theorem dX5_canGlue_152 : decode cX5_canGlue 152 = .ok (.ireturn, 1) := by decide +kernel
theorem dX5_glue_0 : decode cX5_glue 0 = .ok (.aload_n 0, 1) := by decide +kernel
theorem dX5_glue_1 : decode cX5_glue 1 = .ok (.aload_n 0, 1) := by decide +kernel
theorem dX5_glue_2 : decode cX5_glue 2 = .ok (.iload_n 1, 1) := by decide +kernel
theorem dX5_glue_3 : decode cX5_glue 3 = .ok (.invokevirtual 122, 3) := by decide +kernel
theorem dX5_glue_6 : decode cX5_glue 6 = .ok (.ifCond .ne 7, 3) := by decide +kernel
theorem dX5_glue_9 : decode cX5_glue 9 = .ok (.iconst 1, 1) := by decide +kernel
theorem dX5_glue_10 : decode cX5_glue 10 = .ok (.goto 16, 3) := by decide +kernel
theorem dX5_glue_13 : decode cX5_glue 13 = .ok (.aload_n 0, 1) := by decide +kernel
theorem dX5_glue_14 : decode cX5_glue 14 = .ok (.iload_n 1, 1) := by decide +kernel
theorem dX5_glue_15 : decode cX5_glue 15 = .ok (.invokevirtual 153, 3) := by decide +kernel
theorem dX5_glue_18 : decode cX5_glue 18 = .ok (.ifCond .eq 7, 3) := by decide +kernel
theorem dX5_glue_21 : decode cX5_glue 21 = .ok (.iconst 0, 1) := by decide +kernel
theorem dX5_glue_22 : decode cX5_glue 22 = .ok (.goto 4, 3) := by decide +kernel
theorem dX5_glue_25 : decode cX5_glue 25 = .ok (.iconst 2, 1) := by decide +kernel
theorem dX5_glue_26 : decode cX5_glue 26 = .ok (.invokevirtual 100, 3) := by decide +kernel
theorem dX5_glue_29 : decode cX5_glue 29 = .ok (.ifCond .eq 5, 3) := by decide +kernel
theorem dX5_glue_32 : decode cX5_glue 32 = .ok (.iconst (-1), 1) := by decide +kernel
theorem dX5_glue_33 : decode cX5_glue 33 = .ok (.ireturn, 1) := by decide +kernel
theorem dX5_glue_34 : decode cX5_glue 34 = .ok (.aload_n 0, 1) := by decide +kernel
theorem dX5_glue_35 : decode cX5_glue 35 = .ok (.getfield 41, 3) := by decide +kernel
theorem dX5_glue_38 : decode cX5_glue 38 = .ok (.aload_n 0, 1) := by decide +kernel
theorem dX5_glue_39 : decode cX5_glue 39 = .ok (.getfield 85, 3) := by decide +kernel
theorem dX5_glue_42 : decode cX5_glue 42 = .ok (.iload_n 1, 1) := by decide +kernel
theorem dX5_glue_43 : decode cX5_glue 43 = .ok (.iastore, 1) := by decide +kernel
theorem dX5_glue_44 : decode cX5_glue 44 = .ok (.aload_n 0, 1) := by decide +kernel
theorem dX5_glue_45 : decode cX5_glue 45 = .ok (.dup, 1) := by decide +kernel
theorem dX5_glue_46 : decode cX5_glue 46 = .ok (.getfield 85, 3) := by decide +kernel
theorem dX5_glue_49 : decode cX5_glue 49 = .ok (.iconst 1, 1) := by decide +kernel
theorem dX5_glue_50 : decode cX5_glue 50 = .ok (.iadd, 1) := by decide +kernel
theorem dX5_glue_51 : decode cX5_glue 51 = .ok (.putfield 85, 3) := by decide +kernel
theorem dX5_glue_54 : decode cX5_glue 54 = .ok (.aload_n 0, 1) := by decide +kernel
theorem dX5_glue_55 : decode cX5_glue 55 = .ok (.getfield 85, 3) := by decide +kernel
theorem dX5_glue_58 : decode cX5_glue 58 = .ok (.ireturn, 1) := by decide +kernel
theorem dX5_unglue_0 : decode cX5_unglue 0 = .ok (.aload_n 0, 1) := by decide +kernel
theorem dX5_unglue_1 : decode cX5_unglue 1 = .ok (.aload_n 0, 1) := by decide +kernel
theorem dX5_unglue_2 : decode cX5_unglue 2 = .ok (.getfield 85, 3) := by decide +kernel
theorem dX5_unglue_5 : decode cX5_unglue 5 = .ok (.ifCond .ne 7, 3) := by decide +kernel
theorem dX5_unglue_8 : decode cX5_unglue 8 = .ok (.iconst 1, 1) := by decide +kernel
theorem dX5_unglue_9 : decode cX5_unglue 9 = .ok (.goto 4, 3) := by decide +kernel
theorem dX5_unglue_12 : decode cX5_unglue 12 = .ok (.iconst 0, 1) := by decide +kernel
theorem dX5_unglue_13 : decode cX5_unglue 13 = .ok (.invokevirtual 100, 3) := by decide +kernel
theorem dX5_unglue_16 : decode cX5_unglue 16 = .ok (.ifCond .eq 5, 3) := by decide +kernel
theorem dX5_unglue_19 : decode cX5_unglue 19 = .ok (.iconst (-1), 1) := by decide +kernel
theorem dX5_unglue_20 : decode cX5_unglue 20 = .ok (.ireturn, 1) := by decide +kernel
theorem dX5_unglue_21 : decode cX5_unglue 21 = .ok (.aload_n 0, 1) := by decide +kernel
theorem dX5_unglue_22 : decode cX5_unglue 22 = .ok (.dup, 1) := by decide +kernel
theorem dX5_unglue_23 : decode cX5_unglue 23 = .ok (.getfield 85, 3) := by decide +kernel
theorem dX5_unglue_26 : decode cX5_unglue 26 = .ok (.iconst 1, 1) := by decide +kernel
theorem dX5_unglue_27 : decode cX5_unglue 27 = .ok (.isub, 1) := by decide +kernel
theorem dX5_unglue_28 : decode cX5_unglue 28 = .ok (.putfield 85, 3) := by decide +kernel
theorem dX5_unglue_31 : decode cX5_unglue 31 = .ok (.aload_n 0, 1) := by decide +kernel
theorem dX5_unglue_32 : decode cX5_unglue 32 = .ok (.getfield 41, 3) := by decide +kernel
theorem dX5_unglue_35 : decode cX5_unglue 35 = .ok (.aload_n 0, 1) := by decide +kernel
theorem dX5_unglue_36 : decode cX5_unglue 36 = .ok (.getfield 85, 3) := by decide +kernel
theorem dX5_unglue_39 : decode cX5_unglue 39 = .ok (.iaload, 1) := by decide +kernel
theorem dX5_unglue_40 : decode cX5_unglue 40 = .ok (.ireturn, 1) := by decide +kernel
theorem dX5_glued_0 : decode cX5_glued 0 = .ok (.aload_n 0, 1) := by decide +kernel
theorem dX5_glued_1 : decode cX5_glued 1 = .ok (.iload_n 1, 1) := by decide +kernel
theorem dX5_glued_2 : decode cX5_glued 2 = .ok (.ifCond .ge 7, 3) := by decide +kernel
theorem dX5_glued_5 : decode cX5_glued 5 = .ok (.iconst 1, 1) := by decide +kernel
theorem dX5_glued_6 : decode cX5_glued 6 = .ok (.goto 4, 3) := by decide +kernel
theorem dX5_glued_9 : decode cX5_glued 9 = .ok (.iconst 0, 1) := by decide +kernel
theorem dX5_glued_10 : decode cX5_glued 10 = .ok (.invokevirtual 100, 3) := by decide +kernel
theorem dX5_glued_13 : decode cX5_glued 13 = .ok (.ifCond .eq 5, 3) := by decide +kernel
theorem dX5_glued_16 : decode cX5_glued 16 = .ok (.iconst (-1), 1) := by decide +kernel
theorem dX5_glued_17 : decode cX5_glued 17 = .ok (.ireturn, 1) := by decide +kernel
theorem dX5_glued_18 : decode cX5_glued 18 = .ok (.iload_n 1, 1) := by decide +kernel
theorem dX5_glued_19 : decode cX5_glued 19 = .ok (.aload_n 0, 1) := by decide +kernel
theorem dX5_glued_20 : decode cX5_glued 20 = .ok (.getfield 85, 3) := by decide +kernel
theorem dX5_glued_23 : decode cX5_glued 23 = .ok (.if_icmp .ge 12, 3) := by decide +kernel
theorem dX5_glued_26 : decode cX5_glued 26 = .ok (.aload_n 0, 1) := by decide +kernel
theorem dX5_glued_27 : decode cX5_glued 27 = .ok (.getfield 41, 3) := by decide +kernel
theorem dX5_glued_30 : decode cX5_glued 30 = .ok (.iload_n 1, 1) := by decide +kernel
theorem dX5_glued_31 : decode cX5_glued 31 = .ok (.iaload, 1) := by decide +kernel
theorem dX5_glued_32 : decode cX5_glued 32 = .ok (.goto 4, 3) := by decide +kernel
theorem dX5_glued_35 : decode cX5_glued 35 = .ok (.iconst (-1), 1) := by decide +kernel
theorem dX5_glued_36 : decode cX5_glued 36 = .ok (.ireturn, 1) := by decide +kernel
theorem dX5_resize_0 : decode cX5_resize 0 = .ok (.aload_n 0, 1) := by decide +kernel
theorem dX5_resize_1 : decode cX5_resize 1 = .ok (.aload_n 0, 1) := by decide +kernel
theorem dX5_resize_2 : decode cX5_resize 2 = .ok (.iload_n 1, 1) := by decide +kernel
theorem dX5_resize_3 : decode cX5_resize 3 = .ok (.invokevirtual 122, 3) := by decide +kernel
theorem dX5_resize_6 : decode cX5_resize 6 = .ok (.ifCond .ne 7, 3) := by decide +kernel
theorem dX5_resize_9 : decode cX5_resize 9 = .ok (.iconst 1, 1) := by decide +kernel
theorem dX5_resize_10 : decode cX5_resize 10 = .ok (.goto 19, 3) := by decide +kernel
theorem dX5_resize_13 : decode cX5_resize 13 = .ok (.aload_n 0, 1) := by decide +kernel
theorem dX5_resize_14 : decode cX5_resize 14 = .ok (.iload_n 2, 1) := by decide +kernel
theorem dX5_resize_15 : decode cX5_resize 15 = .ok (.iconst 1, 1) := by decide +kernel
theorem dX5_resize_16 : decode cX5_resize 16 = .ok (.bipush 30, 2) := by decide +kernel
theorem dX5_resize_18 : decode cX5_resize 18 = .ok (.invokevirtual 74, 3) := by decide +kernel
theorem dX5_resize_21 : decode cX5_resize 21 = .ok (.ifCond .eq 7, 3) := by decide +kernel
theorem dX5_resize_24 : decode cX5_resize 24 = .ok (.iconst 0, 1) := by decide +kernel
theorem dX5_resize_25 : decode cX5_resize 25 = .ok (.goto 4, 3) := by decide +kernel
theorem dX5_resize_28 : decode cX5_resize 28 = .ok (.iconst 2, 1) := by decide +kernel
theorem dX5_resize_29 : decode cX5_resize 29 = .ok (.invokevirtual 100, 3) := by decide +kernel
theorem dX5_resize_32 : decode cX5_resize 32 = .ok (.ifCond .eq 5, 3) := by decide +kernel
theorem dX5_resize_35 : decode cX5_resize 35 = .ok (.iconst (-1), 1) := by decide +kernel
theorem dX5_resize_36 : decode cX5_resize 36 = .ok (.ireturn, 1) := by decide +kernel
theorem dX5_resize_37 : decode cX5_resize 37 = .ok (.aload_n 0, 1) := by decide +kernel
theorem dX5_resize_38 : decode cX5_resize 38 = .ok (.getfield 29, 3) := by decide +kernel
theorem dX5_resize_41 : decode cX5_resize 41 = .ok (.iload_n 1, 1) := by decide +kernel
theorem dX5_resize_42 : decode cX5_resize 42 = .ok (.iload_n 2, 1) := by decide +kernel
theorem dX5_resize_43 : decode cX5_resize 43 = .ok (.iastore, 1) := by decide +kernel
theorem dX5_resize_44 : decode cX5_resize 44 = .ok (.aload_n 0, 1) := by decide +kernel
theorem dX5_resize_45 : decode cX5_resize 45 = .ok (.iload_n 1, 1) := by decide +kernel
theorem dX5_resize_46 : decode cX5_resize 46 = .ok (.invokevirtual 150, 3) := by decide +kernel
theorem dX5_resize_49 : decode cX5_resize 49 = .ok (.istore_n 3, 1) := by decide +kernel
theorem dX5_resize_50 : decode cX5_resize 50 = .ok (.iload_n 3, 1) := by decide +kernel
theorem dX5_resize_51 : decode cX5_resize 51 = .ok (.ifCond .ge 7, 3) := by decide +kernel
theorem dX5_resize_54 : decode cX5_resize 54 = .ok (.iconst 0, 1) := by decide +kernel
theorem dX5_resize_55 : decode cX5_resize 55 = .ok (.goto 9, 3) := by decide +kernel
theorem dX5_resize_58 : decode cX5_resize 58 = .ok (.aload_n 0, 1) := by decide +kernel
theorem dX5_resize_59 : decode cX5_resize 59 = .ok (.getfield 85, 3) := by decide +kernel
theorem dX5_resize_62 : decode cX5_resize 62 = .ok (.iload_n 3, 1) := by decide +kernel
theorem dX5_resize_63 : decode cX5_resize 63 = .ok (.isub, 1) := by decide +kernel
theorem dX5_resize_64 : decode cX5_resize 64 = .ok (.istore 4, 2) := by decide +kernel
theorem dX5_resize_66 : decode cX5_resize 66 = .ok (.aload_n 0, 1) := by decide +kernel
theorem dX5_resize_67 : decode cX5_resize 67 = .ok (.dup, 1) := by decide +kernel
theorem dX5_resize_68 : decode cX5_resize 68 = .ok (.getfield 85, 3) := by decide +kernel
theorem dX5_resize_71 : decode cX5_resize 71 = .ok (.iload 4, 2) := by decide +kernel
theorem dX5_resize_73 : decode cX5_resize 73 = .ok (.isub, 1) := by decide +kernel
theorem dX5_resize_74 : decode cX5_resize 74 = .ok (.putfield 85, 3) := by decide +kernel
theorem dX5_resize_77 : decode cX5_resize 77 = .ok (.iload 4, 2) := by decide +kernel
theorem dX5_resize_79 : decode cX5_resize 79 = .ok (.ireturn, 1) := by decide +kernel
theorem dX5_isBound_0 : decode cX5_isBound 0 = .ok (.aload_n 0, 1) := by decide +kernel
theorem dX5_isBound_1 : decode cX5_isBound 1 = .ok (.iconst 0, 1) := by decide +kernel
theorem dX5_isBound_2 : decode cX5_isBound 2 = .ok (.invokevirtual 100, 3) := by decide +kernel
theorem dX5_isBound_5 : decode cX5_isBound 5 = .ok (.pop, 1) := by decide +kernel
theorem dX5_isBound_6 : decode cX5_isBound 6 = .ok (.aload_n 0, 1) := by decide +kernel
theorem dX5_isBound_7 : decode cX5_isBound 7 = .ok (.invokevirtual 96, 3) := by decide +kernel
theorem dX5_isBound_10 : decode cX5_isBound 10 = .ok (.ireturn, 1) := by decide +kernel
theorem dX5_digits_0 : decode cX5_digits 0 = .ok (.iload_n 1, 1) := by decide +kernel
theorem dX5_digits_1 : decode cX5_digits 1 = .ok (.bipush 10, 2) := by decide +kernel
theorem dX5_digits_3 : decode cX5_digits 3 = .ok (.if_icmp .ge 7, 3) := by decide +kernel
theorem dX5_digits_6 : decode cX5_digits 6 = .ok (.iconst 1, 1) := by decide +kernel
theorem dX5_digits_7 : decode cX5_digits 7 = .ok (.goto 4, 3) := by decide +kernel
theorem dX5_digits_10 : decode cX5_digits 10 = .ok (.iconst 2, 1) := by decide +kernel
theorem dX5_digits_11 : decode cX5_digits 11 = .ok (.ireturn, 1) := by decide +kernel
theorem dX5_digit_0 : decode cX5_digit 0 = .ok (.bipush 48, 2) := by decide +kernel
theorem dX5_digit_2 : decode cX5_digit 2 = .ok (.aload_n 0, 1) := by decide +kernel
theorem dX5_digit_3 : decode cX5_digit 3 = .ok (.iload_n 1, 1) := by decide +kernel
theorem dX5_digit_4 : decode cX5_digit 4 = .ok (.invokevirtual 156, 3) := by decide +kernel
theorem dX5_digit_7 : decode cX5_digit 7 = .ok (.iconst 2, 1) := by decide +kernel
theorem dX5_digit_8 : decode cX5_digit 8 = .ok (.if_icmp .ne 14, 3) := by decide +kernel
theorem dX5_digit_11 : decode cX5_digit 11 = .ok (.iload_n 2, 1) := by decide +kernel
theorem dX5_digit_12 : decode cX5_digit 12 = .ok (.ifCond .ne 10, 3) := by decide +kernel
theorem dX5_digit_15 : decode cX5_digit 15 = .ok (.iload_n 1, 1) := by decide +kernel
theorem dX5_digit_16 : decode cX5_digit 16 = .ok (.bipush 10, 2) := by decide +kernel
theorem dX5_digit_18 : decode cX5_digit 18 = .ok (.idiv, 1) := by decide +kernel
theorem dX5_digit_19 : decode cX5_digit 19 = .ok (.goto 7, 3) := by decide +kernel
theorem dX5_digit_22 : decode cX5_digit 22 = .ok (.iload_n 1, 1) := by decide +kernel
theorem dX5_digit_23 : decode cX5_digit 23 = .ok (.bipush 10, 2) := by decide +kernel
theorem dX5_digit_25 : decode cX5_digit 25 = .ok (.irem, 1) := by decide +kernel
theorem dX5_digit_26 : decode cX5_digit 26 = .ok (.iadd, 1) := by decide +kernel
theorem dX5_digit_27 : decode cX5_digit 27 = .ok (.i2c, 1) := by decide +kernel
theorem dX5_digit_28 : decode cX5_digit 28 = .ok (.ireturn, 1) := by decide +kernel
theorem dX5_flat_0 : decode cX5_flat 0 = .ok (.iload_n 1, 1) := by decide +kernel
theorem dX5_flat_1 : decode cX5_flat 1 = .ok (.ifCond .ge 8, 3) := by decide +kernel
theorem dX5_flat_4 : decode cX5_flat 4 = .ok (.iload_n 1, 1) := by decide +kernel
theorem dX5_flat_5 : decode cX5_flat 5 = .ok (.ineg, 1) := by decide +kernel
theorem dX5_flat_6 : decode cX5_flat 6 = .ok (.goto 4, 3) := by decide +kernel
theorem dX5_flat_9 : decode cX5_flat 9 = .ok (.iload_n 1, 1) := by decide +kernel
theorem dX5_flat_10 : decode cX5_flat 10 = .ok (.ireturn, 1) := by decide +kernel
theorem dX5_signs_0 : decode cX5_signs 0 = .ok (.iload_n 1, 1) := by decide +kernel
theorem dX5_signs_1 : decode cX5_signs 1 = .ok (.ifCond .ne 7, 3) := by decide +kernel
theorem dX5_signs_4 : decode cX5_signs 4 = .ok (.iconst 2, 1) := by decide +kernel
theorem dX5_signs_5 : decode cX5_signs 5 = .ok (.goto 31, 3) := by decide +kernel
theorem dX5_signs_8 : decode cX5_signs 8 = .ok (.iconst 1, 1) := by decide +kernel
theorem dX5_signs_9 : decode cX5_signs 9 = .ok (.aload_n 0, 1) := by decide +kernel
theorem dX5_signs_10 : decode cX5_signs 10 = .ok (.iload_n 1, 1) := by decide +kernel
theorem dX5_signs_11 : decode cX5_signs 11 = .ok (.invokevirtual 156, 3) := by decide +kernel
theorem dX5_signs_14 : decode cX5_signs 14 = .ok (.iadd, 1) := by decide +kernel
theorem dX5_signs_15 : decode cX5_signs 15 = .ok (.iconst 2, 1) := by decide +kernel
theorem dX5_signs_16 : decode cX5_signs 16 = .ok (.iadd, 1) := by decide +kernel
theorem dX5_signs_17 : decode cX5_signs 17 = .ok (.iconst 1, 1) := by decide +kernel
theorem dX5_signs_18 : decode cX5_signs 18 = .ok (.iadd, 1) := by decide +kernel
theorem dX5_signs_19 : decode cX5_signs 19 = .ok (.aload_n 0, 1) := by decide +kernel
theorem dX5_signs_20 : decode cX5_signs 20 = .ok (.aload_n 0, 1) := by decide +kernel
theorem dX5_signs_21 : decode cX5_signs 21 = .ok (.aload_n 0, 1) := by decide +kernel
theorem dX5_signs_22 : decode cX5_signs 22 = .ok (.getfield 16, 3) := by decide +kernel
theorem dX5_signs_25 : decode cX5_signs 25 = .ok (.iload_n 1, 1) := by decide +kernel
theorem dX5_signs_26 : decode cX5_signs 26 = .ok (.iaload, 1) := by decide +kernel
theorem dX5_signs_27 : decode cX5_signs 27 = .ok (.invokevirtual 159, 3) := by decide +kernel
theorem dX5_signs_30 : decode cX5_signs 30 = .ok (.invokevirtual 156, 3) := by decide +kernel
theorem dX5_signs_33 : decode cX5_signs 33 = .ok (.iadd, 1) := by decide +kernel
theorem dX5_signs_34 : decode cX5_signs 34 = .ok (.iconst 4, 1) := by decide +kernel
theorem dX5_signs_35 : decode cX5_signs 35 = .ok (.iadd, 1) := by decide +kernel
theorem dX5_signs_36 : decode cX5_signs 36 = .ok (.ireturn, 1) := by decide +kernel
theorem dX5_sign_0 : decode cX5_sign 0 = .ok (.iload_n 2, 1) := by decide +kernel
theorem dX5_sign_1 : decode cX5_sign 1 = .ok (.ifCond .ne 6, 3) := by decide +kernel
theorem dX5_sign_4 : decode cX5_sign 4 = .ok (.bipush 102, 2) := by decide +kernel
theorem dX5_sign_6 : decode cX5_sign 6 = .ok (.ireturn, 1) := by decide +kernel
theorem dX5_sign_7 : decode cX5_sign 7 = .ok (.iload_n 2, 1) := by decide +kernel
theorem dX5_sign_8 : decode cX5_sign 8 = .ok (.iconst 1, 1) := by decide +kernel
theorem dX5_sign_9 : decode cX5_sign 9 = .ok (.isub, 1) := by decide +kernel
theorem dX5_sign_10 : decode cX5_sign 10 = .ok (.istore_n 3, 1) := by decide +kernel
theorem dX5_sign_11 : decode cX5_sign 11 = .ok (.iload_n 3, 1) := by decide +kernel
theorem dX5_sign_12 : decode cX5_sign 12 = .ok (.aload_n 0, 1) := by decide +kernel
theorem dX5_sign_13 : decode cX5_sign 13 = .ok (.iload_n 1, 1) := by decide +kernel
theorem dX5_sign_14 : decode cX5_sign 14 = .ok (.invokevirtual 156, 3) := by decide +kernel
theorem dX5_sign_17 : decode cX5_sign 17 = .ok (.if_icmp .ge 10, 3) := by decide +kernel
theorem dX5_sign_20 : decode cX5_sign 20 = .ok (.aload_n 0, 1) := by decide +kernel
theorem dX5_sign_21 : decode cX5_sign 21 = .ok (.iload_n 1, 1) := by decide +kernel
theorem dX5_sign_22 : decode cX5_sign 22 = .ok (.iload_n 3, 1) := by decide +kernel
theorem dX5_sign_23 : decode cX5_sign 23 = .ok (.invokevirtual 162, 3) := by decide +kernel
theorem dX5_sign_26 : decode cX5_sign 26 = .ok (.ireturn, 1) := by decide +kernel
theorem dX5_sign_27 : decode cX5_sign 27 = .ok (.iload_n 3, 1) := by decide +kernel
theorem dX5_sign_28 : decode cX5_sign 28 = .ok (.aload_n 0, 1) := by decide +kernel
theorem dX5_sign_29 : decode cX5_sign 29 = .ok (.iload_n 1, 1) := by decide +kernel
theorem dX5_sign_30 : decode cX5_sign 30 = .ok (.invokevirtual 156, 3) := by decide +kernel
theorem dX5_sign_33 : decode cX5_sign 33 = .ok (.isub, 1) := by decide +kernel
theorem dX5_sign_34 : decode cX5_sign 34 = .ok (.istore_n 3, 1) := by decide +kernel
theorem dX5_sign_35 : decode cX5_sign 35 = .ok (.iload_n 3, 1) := by decide +kernel
theorem dX5_sign_36 : decode cX5_sign 36 = .ok (.iconst 3, 1) := by decide +kernel
theorem dX5_sign_37 : decode cX5_sign 37 = .ok (.if_icmp .ge 47, 3) := by decide +kernel
theorem dX5_sign_40 : decode cX5_sign 40 = .ok (.iload_n 3, 1) := by decide +kernel
theorem dX5_sign_41 : decode cX5_sign 41 = .ok (.ifCond .ne 8, 3) := by decide +kernel
theorem dX5_sign_44 : decode cX5_sign 44 = .ok (.bipush 42, 2) := by decide +kernel
theorem dX5_sign_46 : decode cX5_sign 46 = .ok (.goto 37, 3) := by decide +kernel
theorem dX5_sign_49 : decode cX5_sign 49 = .ok (.iload_n 3, 1) := by decide +kernel
theorem dX5_sign_50 : decode cX5_sign 50 = .ok (.iconst 1, 1) := by decide +kernel
theorem dX5_sign_51 : decode cX5_sign 51 = .ok (.if_icmp .ne 16, 3) := by decide +kernel
theorem dX5_sign_54 : decode cX5_sign 54 = .ok (.bipush 48, 2) := by decide +kernel
theorem dX5_sign_56 : decode cX5_sign 56 = .ok (.aload_n 0, 1) := by decide +kernel
theorem dX5_sign_57 : decode cX5_sign 57 = .ok (.getfield 13, 3) := by decide +kernel
theorem dX5_sign_60 : decode cX5_sign 60 = .ok (.iload_n 1, 1) := by decide +kernel
theorem dX5_sign_61 : decode cX5_sign 61 = .ok (.iaload, 1) := by decide +kernel
theorem dX5_sign_62 : decode cX5_sign 62 = .ok (.iadd, 1) := by decide +kernel
theorem dX5_sign_63 : decode cX5_sign 63 = .ok (.i2c, 1) := by decide +kernel
theorem dX5_sign_64 : decode cX5_sign 64 = .ok (.goto 19, 3) := by decide +kernel
theorem dX5_sign_67 : decode cX5_sign 67 = .ok (.aload_n 0, 1) := by decide +kernel
theorem dX5_sign_68 : decode cX5_sign 68 = .ok (.getfield 16, 3) := by decide +kernel
theorem dX5_sign_71 : decode cX5_sign 71 = .ok (.iload_n 1, 1) := by decide +kernel
theorem dX5_sign_72 : decode cX5_sign 72 = .ok (.iaload, 1) := by decide +kernel
theorem dX5_sign_73 : decode cX5_sign 73 = .ok (.ifCond .ge 8, 3) := by decide +kernel
theorem dX5_sign_76 : decode cX5_sign 76 = .ok (.bipush 45, 2) := by decide +kernel
theorem dX5_sign_78 : decode cX5_sign 78 = .ok (.goto 5, 3) := by decide +kernel
theorem dX5_sign_81 : decode cX5_sign 81 = .ok (.bipush 43, 2) := by decide +kernel
theorem dX5_sign_83 : decode cX5_sign 83 = .ok (.ireturn, 1) := by decide +kernel
theorem dX5_sign_84 : decode cX5_sign 84 = .ok (.iinc 3 (-3), 3) := by decide +kernel
theorem dX5_sign_87 : decode cX5_sign 87 = .ok (.iload_n 3, 1) := by decide +kernel
theorem dX5_sign_88 : decode cX5_sign 88 = .ok (.aload_n 0, 1) := by decide +kernel
theorem dX5_sign_89 : decode cX5_sign 89 = .ok (.aload_n 0, 1) := by decide +kernel
theorem dX5_sign_90 : decode cX5_sign 90 = .ok (.aload_n 0, 1) := by decide +kernel
theorem dX5_sign_91 : decode cX5_sign 91 = .ok (.getfield 16, 3) := by decide +kernel
theorem dX5_sign_94 : decode cX5_sign 94 = .ok (.iload_n 1, 1) := by decide +kernel
theorem dX5_sign_95 : decode cX5_sign 95 = .ok (.iaload, 1) := by decide +kernel
theorem dX5_sign_96 : decode cX5_sign 96 = .ok (.invokevirtual 159, 3) := by decide +kernel
theorem dX5_sign_99 : decode cX5_sign 99 = .ok (.invokevirtual 156, 3) := by decide +kernel
theorem dX5_sign_102 : decode cX5_sign 102 = .ok (.if_icmp .ge 19, 3) := by decide +kernel
theorem dX5_sign_105 : decode cX5_sign 105 = .ok (.aload_n 0, 1) := by decide +kernel
theorem dX5_sign_106 : decode cX5_sign 106 = .ok (.aload_n 0, 1) := by decide +kernel
theorem dX5_sign_107 : decode cX5_sign 107 = .ok (.aload_n 0, 1) := by decide +kernel
theorem dX5_sign_108 : decode cX5_sign 108 = .ok (.getfield 16, 3) := by decide +kernel
theorem dX5_sign_111 : decode cX5_sign 111 = .ok (.iload_n 1, 1) := by decide +kernel
theorem dX5_sign_112 : decode cX5_sign 112 = .ok (.iaload, 1) := by decide +kernel
theorem dX5_sign_113 : decode cX5_sign 113 = .ok (.invokevirtual 159, 3) := by decide +kernel
theorem dX5_sign_116 : decode cX5_sign 116 = .ok (.iload_n 3, 1) := by decide +kernel
theorem dX5_sign_117 : decode cX5_sign 117 = .ok (.invokevirtual 162, 3) := by decide +kernel
theorem dX5_sign_120 : decode cX5_sign 120 = .ok (.ireturn, 1) := by decide +kernel
theorem dX5_sign_121 : decode cX5_sign 121 = .ok (.iload_n 3, 1) := by decide +kernel
theorem dX5_sign_122 : decode cX5_sign 122 = .ok (.aload_n 0, 1) := by decide +kernel
theorem dX5_sign_123 : decode cX5_sign 123 = .ok (.aload_n 0, 1) := by decide +kernel
theorem dX5_sign_124 : decode cX5_sign 124 = .ok (.aload_n 0, 1) := by decide +kernel
theorem dX5_sign_125 : decode cX5_sign 125 = .ok (.getfield 16, 3) := by decide +kernel
theorem dX5_sign_128 : decode cX5_sign 128 = .ok (.iload_n 1, 1) := by decide +kernel
theorem dX5_sign_129 : decode cX5_sign 129 = .ok (.iaload, 1) := by decide +kernel
theorem dX5_sign_130 : decode cX5_sign 130 = .ok (.invokevirtual 159, 3) := by decide +kernel
theorem dX5_sign_133 : decode cX5_sign 133 = .ok (.invokevirtual 156, 3) := by decide +kernel
theorem dX5_sign_136 : decode cX5_sign 136 = .ok (.isub, 1) := by decide +kernel
theorem dX5_sign_137 : decode cX5_sign 137 = .ok (.istore_n 3, 1) := by decide +kernel
theorem dX5_sign_138 : decode cX5_sign 138 = .ok (.iload_n 3, 1) := by decide +kernel
theorem dX5_sign_139 : decode cX5_sign 139 = .ok (.iconst 1, 1) := by decide +kernel
theorem dX5_sign_140 : decode cX5_sign 140 = .ok (.if_icmp .ne 8, 3) := by decide +kernel
theorem dX5_sign_143 : decode cX5_sign 143 = .ok (.bipush 111, 2) := by decide +kernel
theorem dX5_sign_145 : decode cX5_sign 145 = .ok (.goto 15, 3) := by decide +kernel
theorem dX5_sign_148 : decode cX5_sign 148 = .ok (.iload_n 3, 1) := by decide +kernel
theorem dX5_sign_149 : decode cX5_sign 149 = .ok (.iconst 2, 1) := by decide +kernel
theorem dX5_sign_150 : decode cX5_sign 150 = .ok (.if_icmp .ne 8, 3) := by decide +kernel
theorem dX5_sign_153 : decode cX5_sign 153 = .ok (.bipush 110, 2) := by decide +kernel
theorem dX5_sign_155 : decode cX5_sign 155 = .ok (.goto 5, 3) := by decide +kernel
theorem dX5_sign_158 : decode cX5_sign 158 = .ok (.bipush 32, 2) := by decide +kernel
theorem dX5_sign_160 : decode cX5_sign 160 = .ok (.ireturn, 1) := by decide +kernel
theorem dX5_tells_0 : decode cX5_tells 0 = .ok (.aload_n 0, 1) := by decide +kernel
theorem dX5_tells_1 : decode cX5_tells 1 = .ok (.aload_n 0, 1) := by decide +kernel
theorem dX5_tells_2 : decode cX5_tells 2 = .ok (.iload_n 1, 1) := by decide +kernel
theorem dX5_tells_3 : decode cX5_tells 3 = .ok (.invokevirtual 92, 3) := by decide +kernel
theorem dX5_tells_6 : decode cX5_tells 6 = .ok (.ifCond .eq 11, 3) := by decide +kernel
theorem dX5_tells_9 : decode cX5_tells 9 = .ok (.iload_n 2, 1) := by decide +kernel
theorem dX5_tells_10 : decode cX5_tells 10 = .ok (.ifCond .lt 7, 3) := by decide +kernel
theorem dX5_tells_13 : decode cX5_tells 13 = .ok (.iconst 0, 1) := by decide +kernel
theorem dX5_tells_14 : decode cX5_tells 14 = .ok (.goto 4, 3) := by decide +kernel
theorem dX5_tells_17 : decode cX5_tells 17 = .ok (.iconst 1, 1) := by decide +kernel
theorem dX5_tells_18 : decode cX5_tells 18 = .ok (.invokevirtual 100, 3) := by decide +kernel
theorem dX5_tells_21 : decode cX5_tells 21 = .ok (.ifCond .eq 5, 3) := by decide +kernel
theorem dX5_tells_24 : decode cX5_tells 24 = .ok (.iconst 0, 1) := by decide +kernel
theorem dX5_tells_25 : decode cX5_tells 25 = .ok (.ireturn, 1) := by decide +kernel
theorem dX5_tells_26 : decode cX5_tells 26 = .ok (.iload_n 1, 1) := by decide +kernel
theorem dX5_tells_27 : decode cX5_tells 27 = .ok (.istore_n 3, 1) := by decide +kernel
theorem dX5_tells_28 : decode cX5_tells 28 = .ok (.iload_n 2, 1) := by decide +kernel
theorem dX5_tells_29 : decode cX5_tells 29 = .ok (.istore 4, 2) := by decide +kernel
theorem dX5_tells_31 : decode cX5_tells 31 = .ok (.iload_n 3, 1) := by decide +kernel
theorem dX5_tells_32 : decode cX5_tells 32 = .ok (.ifCond .le 33, 3) := by decide +kernel
theorem dX5_tells_35 : decode cX5_tells 35 = .ok (.iload 4, 2) := by decide +kernel
theorem dX5_tells_37 : decode cX5_tells 37 = .ok (.aload_n 0, 1) := by decide +kernel
theorem dX5_tells_38 : decode cX5_tells 38 = .ok (.iload_n 3, 1) := by decide +kernel
theorem dX5_tells_39 : decode cX5_tells 39 = .ok (.invokevirtual 166, 3) := by decide +kernel
theorem dX5_tells_42 : decode cX5_tells 42 = .ok (.if_icmp .lt 23, 3) := by decide +kernel
theorem dX5_tells_45 : decode cX5_tells 45 = .ok (.iload 4, 2) := by decide +kernel
theorem dX5_tells_47 : decode cX5_tells 47 = .ok (.aload_n 0, 1) := by decide +kernel
theorem dX5_tells_48 : decode cX5_tells 48 = .ok (.iload_n 3, 1) := by decide +kernel
theorem dX5_tells_49 : decode cX5_tells 49 = .ok (.invokevirtual 166, 3) := by decide +kernel
theorem dX5_tells_52 : decode cX5_tells 52 = .ok (.isub, 1) := by decide +kernel
theorem dX5_tells_53 : decode cX5_tells 53 = .ok (.istore 4, 2) := by decide +kernel
theorem dX5_tells_55 : decode cX5_tells 55 = .ok (.aload_n 0, 1) := by decide +kernel
theorem dX5_tells_56 : decode cX5_tells 56 = .ok (.getfield 7, 3) := by decide +kernel
theorem dX5_tells_59 : decode cX5_tells 59 = .ok (.iload_n 3, 1) := by decide +kernel
theorem dX5_tells_60 : decode cX5_tells 60 = .ok (.iaload, 1) := by decide +kernel
theorem dX5_tells_61 : decode cX5_tells 61 = .ok (.istore_n 3, 1) := by decide +kernel
theorem dX5_tells_62 : decode cX5_tells 62 = .ok (.goto (-31), 3) := by decide +kernel
theorem dX5_tells_65 : decode cX5_tells 65 = .ok (.iload 4, 2) := by decide +kernel
theorem dX5_tells_67 : decode cX5_tells 67 = .ok (.aload_n 0, 1) := by decide +kernel
theorem dX5_tells_68 : decode cX5_tells 68 = .ok (.iload_n 3, 1) := by decide +kernel
theorem dX5_tells_69 : decode cX5_tells 69 = .ok (.invokevirtual 166, 3) := by decide +kernel
theorem dX5_tells_72 : decode cX5_tells 72 = .ok (.if_icmp .ge 13, 3) := by decide +kernel
theorem dX5_tells_75 : decode cX5_tells 75 = .ok (.aload_n 0, 1) := by decide +kernel
theorem dX5_tells_76 : decode cX5_tells 76 = .ok (.iload_n 3, 1) := by decide +kernel
theorem dX5_tells_77 : decode cX5_tells 77 = .ok (.iload 4, 2) := by decide +kernel
theorem dX5_tells_79 : decode cX5_tells 79 = .ok (.invokevirtual 169, 3) := by decide +kernel
theorem dX5_tells_82 : decode cX5_tells 82 = .ok (.goto 4, 3) := by decide +kernel
theorem dX5_tells_85 : decode cX5_tells 85 = .ok (.iconst 0, 1) := by decide +kernel
theorem dX5_tells_86 : decode cX5_tells 86 = .ok (.ireturn, 1) := by decide +kernel
