theorem dX5_init_0 : decode cX5_init 0 = .ok (.aload_n 0, 1) := by decide +kernel
theorem dX5_init_1 : decode cX5_init 1 = .ok (.invokespecial 3, 3) := by decide +kernel
theorem dX5_init_4 : decode cX5_init 4 = .ok (.aload_n 0, 1) := by decide +kernel
theorem dX5_init_5 : decode cX5_init 5 = .ok (.aload_n 1, 1) := by decide +kernel
theorem dX5_init_6 : decode cX5_init 6 = .ok (.putfield 9, 3) := by decide +kernel
theorem dX5_init_9 : decode cX5_init 9 = .ok (.aload_n 0, 1) := by decide +kernel
theorem dX5_init_10 : decode cX5_init 10 = .ok (.aload_n 2, 1) := by decide +kernel
theorem dX5_init_11 : decode cX5_init 11 = .ok (.putfield 15, 3) := by decide +kernel
theorem dX5_init_14 : decode cX5_init 14 = .ok (.return_, 1) := by decide +kernel
theorem dX5_begin_0 : decode cX5_begin 0 = .ok (.aload_n 0, 1) := by decide +kernel
theorem dX5_begin_1 : decode cX5_begin 1 = .ok (.getfield 9, 3) := by decide +kernel
theorem dX5_begin_4 : decode cX5_begin 4 = .ok (.getfield 19, 3) := by decide +kernel
theorem dX5_begin_7 : decode cX5_begin 7 = .ok (.astore_n 3, 1) := by decide +kernel
theorem dX5_begin_8 : decode cX5_begin 8 = .ok (.aload_n 3, 1) := by decide +kernel
theorem dX5_begin_9 : decode cX5_begin 9 = .ok (.iload_n 1, 1) := by decide +kernel
theorem dX5_begin_10 : decode cX5_begin 10 = .ok (.invokevirtual 25, 3) := by decide +kernel
theorem dX5_begin_13 : decode cX5_begin 13 = .ok (.istore 4, 2) := by decide +kernel
theorem dX5_begin_15 : decode cX5_begin 15 = .ok (.iload 4, 2) := by decide +kernel
theorem dX5_begin_17 : decode cX5_begin 17 = .ok (.iconst (-1), 1) := by decide +kernel
theorem dX5_begin_18 : decode cX5_begin 18 = .ok (.if_icmp .eq 21, 3) := by decide +kernel
theorem dX5_begin_21 : decode cX5_begin 21 = .ok (.iload_n 2, 1) := by decide +kernel
theorem dX5_begin_22 : decode cX5_begin 22 = .ok (.invokestatic 31, 3) := by decide +kernel
theorem dX5_begin_25 : decode cX5_begin 25 = .ok (.ifCond .eq 14, 3) := by decide +kernel
theorem dX5_begin_28 : decode cX5_begin 28 = .ok (.iload_n 2, 1) := by decide +kernel
theorem dX5_begin_29 : decode cX5_begin 29 = .ok (.aload_n 3, 1) := by decide +kernel
theorem dX5_begin_30 : decode cX5_begin 30 = .ok (.getfield 35, 3) := by decide +kernel
theorem dX5_begin_33 : decode cX5_begin 33 = .ok (.iload 4, 2) := by decide +kernel
theorem dX5_begin_35 : decode cX5_begin 35 = .ok (.iaload, 1) := by decide +kernel
theorem dX5_begin_36 : decode cX5_begin 36 = .ok (.if_icmp .ne 5, 3) := by decide +kernel
theorem dX5_begin_39 : decode cX5_begin 39 = .ok (.iconst (-1), 1) := by decide +kernel
theorem dX5_begin_40 : decode cX5_begin 40 = .ok (.ireturn, 1) := by decide +kernel
theorem dX5_begin_41 : decode cX5_begin 41 = .ok (.aload_n 0, 1) := by decide +kernel
theorem dX5_begin_42 : decode cX5_begin 42 = .ok (.getfield 9, 3) := by decide +kernel
theorem dX5_begin_45 : decode cX5_begin 45 = .ok (.iload_n 2, 1) := by decide +kernel
theorem dX5_begin_46 : decode cX5_begin 46 = .ok (.invokevirtual 39, 3) := by decide +kernel
theorem dX5_begin_49 : decode cX5_begin 49 = .ok (.ifCond .eq 32, 3) := by decide +kernel
theorem dX5_begin_52 : decode cX5_begin 52 = .ok (.aload_n 0, 1) := by decide +kernel
theorem dX5_begin_53 : decode cX5_begin 53 = .ok (.getfield 9, 3) := by decide +kernel
theorem dX5_begin_56 : decode cX5_begin 56 = .ok (.aload_n 3, 1) := by decide +kernel
theorem dX5_begin_57 : decode cX5_begin 57 = .ok (.getfield 35, 3) := by decide +kernel
theorem dX5_begin_60 : decode cX5_begin 60 = .ok (.iload 4, 2) := by decide +kernel
theorem dX5_begin_62 : decode cX5_begin 62 = .ok (.iaload, 1) := by decide +kernel
theorem dX5_begin_63 : decode cX5_begin 63 = .ok (.invokevirtual 39, 3) := by decide +kernel
theorem dX5_begin_66 : decode cX5_begin 66 = .ok (.ifCond .eq 15, 3) := by decide +kernel
theorem dX5_begin_69 : decode cX5_begin 69 = .ok (.aload_n 0, 1) := by decide +kernel
theorem dX5_begin_70 : decode cX5_begin 70 = .ok (.getfield 9, 3) := by decide +kernel
theorem dX5_begin_73 : decode cX5_begin 73 = .ok (.iload_n 1, 1) := by decide +kernel
theorem dX5_begin_74 : decode cX5_begin 74 = .ok (.invokevirtual 42, 3) := by decide +kernel
theorem dX5_begin_77 : decode cX5_begin 77 = .ok (.iconst (-1), 1) := by decide +kernel
theorem dX5_begin_78 : decode cX5_begin 78 = .ok (.if_icmp .eq 5, 3) := by decide +kernel
theorem dX5_begin_81 : decode cX5_begin 81 = .ok (.iconst (-1), 1) := by decide +kernel
theorem dX5_begin_82 : decode cX5_begin 82 = .ok (.ireturn, 1) := by decide +kernel
theorem dX5_begin_83 : decode cX5_begin 83 = .ok (.aload_n 0, 1) := by decide +kernel
theorem dX5_begin_84 : decode cX5_begin 84 = .ok (.getfield 9, 3) := by decide +kernel
theorem dX5_begin_87 : decode cX5_begin 87 = .ok (.getfield 45, 3) := by decide +kernel
theorem dX5_begin_90 : decode cX5_begin 90 = .ok (.bipush 12, 2) := by decide +kernel
theorem dX5_begin_92 : decode cX5_begin 92 = .ok (.if_icmp .ge 14, 3) := by decide +kernel
theorem dX5_begin_95 : decode cX5_begin 95 = .ok (.aload_n 0, 1) := by decide +kernel
theorem dX5_begin_96 : decode cX5_begin 96 = .ok (.getfield 9, 3) := by decide +kernel
theorem dX5_begin_99 : decode cX5_begin 99 = .ok (.invokevirtual 49, 3) := by decide +kernel
theorem dX5_begin_102 : decode cX5_begin 102 = .ok (.iconst 4, 1) := by decide +kernel
theorem dX5_begin_103 : decode cX5_begin 103 = .ok (.if_icmp .lt 5, 3) := by decide +kernel
theorem dX5_begin_106 : decode cX5_begin 106 = .ok (.iconst (-1), 1) := by decide +kernel
theorem dX5_begin_107 : decode cX5_begin 107 = .ok (.ireturn, 1) := by decide +kernel
theorem dX5_begin_108 : decode cX5_begin 108 = .ok (.aload_n 0, 1) := by decide +kernel
theorem dX5_begin_109 : decode cX5_begin 109 = .ok (.getfield 9, 3) := by decide +kernel
theorem dX5_begin_112 : decode cX5_begin 112 = .ok (.getfield 45, 3) := by decide +kernel
theorem dX5_begin_115 : decode cX5_begin 115 = .ok (.istore 5, 2) := by decide +kernel
theorem dX5_begin_117 : decode cX5_begin 117 = .ok (.aload_n 0, 1) := by decide +kernel
theorem dX5_begin_118 : decode cX5_begin 118 = .ok (.getfield 9, 3) := by decide +kernel
theorem dX5_begin_121 : decode cX5_begin 121 = .ok (.getfield 53, 3) := by decide +kernel
theorem dX5_begin_124 : decode cX5_begin 124 = .ok (.iload 5, 2) := by decide +kernel
theorem dX5_begin_126 : decode cX5_begin 126 = .ok (.aaload, 1) := by decide +kernel
theorem dX5_begin_127 : decode cX5_begin 127 = .ok (.iload_n 1, 1) := by decide +kernel
theorem dX5_begin_128 : decode cX5_begin 128 = .ok (.aload_n 3, 1) := by decide +kernel
theorem dX5_begin_129 : decode cX5_begin 129 = .ok (.iload 4, 2) := by decide +kernel
theorem dX5_begin_131 : decode cX5_begin 131 = .ok (.invokevirtual 57, 3) := by decide +kernel
theorem dX5_begin_134 : decode cX5_begin 134 = .ok (.aload_n 3, 1) := by decide +kernel
theorem dX5_begin_135 : decode cX5_begin 135 = .ok (.getfield 35, 3) := by decide +kernel
theorem dX5_begin_138 : decode cX5_begin 138 = .ok (.iload 4, 2) := by decide +kernel
theorem dX5_begin_140 : decode cX5_begin 140 = .ok (.iaload, 1) := by decide +kernel
theorem dX5_begin_141 : decode cX5_begin 141 = .ok (.iload_n 2, 1) := by decide +kernel
theorem dX5_begin_142 : decode cX5_begin 142 = .ok (.invokevirtual 60, 3) := by decide +kernel
theorem dX5_begin_145 : decode cX5_begin 145 = .ok (.aload_n 0, 1) := by decide +kernel
theorem dX5_begin_146 : decode cX5_begin 146 = .ok (.getfield 9, 3) := by decide +kernel
theorem dX5_begin_149 : decode cX5_begin 149 = .ok (.dup, 1) := by decide +kernel
theorem dX5_begin_150 : decode cX5_begin 150 = .ok (.getfield 45, 3) := by decide +kernel
theorem dX5_begin_153 : decode cX5_begin 153 = .ok (.iconst 1, 1) := by decide +kernel
theorem dX5_begin_154 : decode cX5_begin 154 = .ok (.iadd, 1) := by decide +kernel
theorem dX5_begin_155 : decode cX5_begin 155 = .ok (.putfield 45, 3) := by decide +kernel
theorem dX5_begin_158 : decode cX5_begin 158 = .ok (.aload_n 0, 1) := by decide +kernel
theorem dX5_begin_159 : decode cX5_begin 159 = .ok (.getfield 15, 3) := by decide +kernel
theorem dX5_begin_162 : decode cX5_begin 162 = .ok (.bipush 8, 2) := by decide +kernel
theorem dX5_begin_164 : decode cX5_begin 164 = .ok (.iconst 1, 1) := by decide +kernel
theorem dX5_begin_165 : decode cX5_begin 165 = .ok (.invokevirtual 66, 3) := by decide +kernel
theorem dX5_begin_168 : decode cX5_begin 168 = .ok (.iload 5, 2) := by decide +kernel
theorem dX5_begin_170 : decode cX5_begin 170 = .ok (.ireturn, 1) := by decide +kernel
theorem dX5_takeSteps_0 : decode cX5_takeSteps 0 = .ok (.iload_n 2, 1) := by decide +kernel
theorem dX5_takeSteps_1 : decode cX5_takeSteps 1 = .ok (.iconst 1, 1) := by decide +kernel
theorem dX5_takeSteps_2 : decode cX5_takeSteps 2 = .ok (.if_icmp .lt 20, 3) := by decide +kernel
theorem dX5_takeSteps_5 : decode cX5_takeSteps 5 = .ok (.iload_n 2, 1) := by decide +kernel
theorem dX5_takeSteps_6 : decode cX5_takeSteps 6 = .ok (.bipush 100, 2) := by decide +kernel
theorem dX5_takeSteps_8 : decode cX5_takeSteps 8 = .ok (.if_icmp .gt 14, 3) := by decide +kernel
theorem dX5_takeSteps_11 : decode cX5_takeSteps 11 = .ok (.aload_n 0, 1) := by decide +kernel
theorem dX5_takeSteps_12 : decode cX5_takeSteps 12 = .ok (.getfield 9, 3) := by decide +kernel
theorem dX5_takeSteps_15 : decode cX5_takeSteps 15 = .ok (.iload_n 1, 1) := by decide +kernel
theorem dX5_takeSteps_16 : decode cX5_takeSteps 16 = .ok (.invokevirtual 72, 3) := by decide +kernel
theorem dX5_takeSteps_19 : decode cX5_takeSteps 19 = .ok (.ifCond .ne 5, 3) := by decide +kernel
theorem dX5_takeSteps_22 : decode cX5_takeSteps 22 = .ok (.iconst (-1), 1) := by decide +kernel
theorem dX5_takeSteps_23 : decode cX5_takeSteps 23 = .ok (.ireturn, 1) := by decide +kernel
theorem dX5_takeSteps_24 : decode cX5_takeSteps 24 = .ok (.aload_n 0, 1) := by decide +kernel
theorem dX5_takeSteps_25 : decode cX5_takeSteps 25 = .ok (.getfield 9, 3) := by decide +kernel
theorem dX5_takeSteps_28 : decode cX5_takeSteps 28 = .ok (.getfield 53, 3) := by decide +kernel
theorem dX5_takeSteps_31 : decode cX5_takeSteps 31 = .ok (.iload_n 1, 1) := by decide +kernel
theorem dX5_takeSteps_32 : decode cX5_takeSteps 32 = .ok (.aaload, 1) := by decide +kernel
theorem dX5_takeSteps_33 : decode cX5_takeSteps 33 = .ok (.astore_n 3, 1) := by decide +kernel
theorem dX5_takeSteps_34 : decode cX5_takeSteps 34 = .ok (.iconst 0, 1) := by decide +kernel
theorem dX5_takeSteps_35 : decode cX5_takeSteps 35 = .ok (.istore 4, 2) := by decide +kernel
theorem dX5_takeSteps_37 : decode cX5_takeSteps 37 = .ok (.iload 4, 2) := by decide +kernel
theorem dX5_takeSteps_39 : decode cX5_takeSteps 39 = .ok (.iload_n 2, 1) := by decide +kernel
theorem dX5_takeSteps_40 : decode cX5_takeSteps 40 = .ok (.if_icmp .ge 28, 3) := by decide +kernel
theorem dX5_takeSteps_43 : decode cX5_takeSteps 43 = .ok (.aload_n 3, 1) := by decide +kernel
theorem dX5_takeSteps_44 : decode cX5_takeSteps 44 = .ok (.invokevirtual 75, 3) := by decide +kernel
theorem dX5_takeSteps_47 : decode cX5_takeSteps 47 = .ok (.ifCond .eq 21, 3) := by decide +kernel
theorem dX5_takeSteps_50 : decode cX5_takeSteps 50 = .ok (.aload_n 3, 1) := by decide +kernel
theorem dX5_takeSteps_51 : decode cX5_takeSteps 51 = .ok (.getfield 79, 3) := by decide +kernel
theorem dX5_takeSteps_54 : decode cX5_takeSteps 54 = .ok (.ifCond .ne 14, 3) := by decide +kernel
theorem dX5_takeSteps_57 : decode cX5_takeSteps 57 = .ok (.aload_n 0, 1) := by decide +kernel
theorem dX5_takeSteps_58 : decode cX5_takeSteps 58 = .ok (.aload_n 3, 1) := by decide +kernel
theorem dX5_takeSteps_59 : decode cX5_takeSteps 59 = .ok (.invokevirtual 83, 3) := by decide +kernel
theorem dX5_takeSteps_62 : decode cX5_takeSteps 62 = .ok (.iinc 4 1, 3) := by decide +kernel
theorem dX5_takeSteps_65 : decode cX5_takeSteps 65 = .ok (.goto (-28), 3) := by decide +kernel
theorem dX5_takeSteps_68 : decode cX5_takeSteps 68 = .ok (.aload_n 3, 1) := by decide +kernel
theorem dX5_takeSteps_69 : decode cX5_takeSteps 69 = .ok (.getfield 87, 3) := by decide +kernel
theorem dX5_takeSteps_72 : decode cX5_takeSteps 72 = .ok (.ireturn, 1) := by decide +kernel
theorem dX5_takeOne_0 : decode cX5_takeOne 0 = .ok (.aload_n 1, 1) := by decide +kernel
theorem dX5_takeOne_1 : decode cX5_takeOne 1 = .ok (.dup, 1) := by decide +kernel
theorem dX5_takeOne_2 : decode cX5_takeOne 2 = .ok (.getfield 90, 3) := by decide +kernel
theorem dX5_takeOne_5 : decode cX5_takeOne 5 = .ok (.iconst 1, 1) := by decide +kernel
theorem dX5_takeOne_6 : decode cX5_takeOne 6 = .ok (.iadd, 1) := by decide +kernel
theorem dX5_takeOne_7 : decode cX5_takeOne 7 = .ok (.putfield 90, 3) := by decide +kernel
theorem dX5_takeOne_10 : decode cX5_takeOne 10 = .ok (.aload_n 0, 1) := by decide +kernel
theorem dX5_takeOne_11 : decode cX5_takeOne 11 = .ok (.getfield 15, 3) := by decide +kernel
theorem dX5_takeOne_14 : decode cX5_takeOne 14 = .ok (.bipush 11, 2) := by decide +kernel
theorem dX5_takeOne_16 : decode cX5_takeOne 16 = .ok (.iconst 1, 1) := by decide +kernel
theorem dX5_takeOne_17 : decode cX5_takeOne 17 = .ok (.invokevirtual 66, 3) := by decide +kernel
theorem dX5_takeOne_20 : decode cX5_takeOne 20 = .ok (.aload_n 1, 1) := by decide +kernel
theorem dX5_takeOne_21 : decode cX5_takeOne 21 = .ok (.invokevirtual 93, 3) := by decide +kernel
theorem dX5_takeOne_24 : decode cX5_takeOne 24 = .ok (.istore_n 2, 1) := by decide +kernel
theorem dX5_takeOne_25 : decode cX5_takeOne 25 = .ok (.iload_n 2, 1) := by decide +kernel
theorem dX5_takeOne_26 : decode cX5_takeOne 26 = .ok (.ifCond .eq 15, 3) := by decide +kernel
theorem dX5_takeOne_29 : decode cX5_takeOne 29 = .ok (.aload_n 0, 1) := by decide +kernel
theorem dX5_takeOne_30 : decode cX5_takeOne 30 = .ok (.getfield 9, 3) := by decide +kernel
theorem dX5_takeOne_33 : decode cX5_takeOne 33 = .ok (.getfield 96, 3) := by decide +kernel
theorem dX5_takeOne_36 : decode cX5_takeOne 36 = .ok (.iconst 2, 1) := by decide +kernel
theorem dX5_takeOne_37 : decode cX5_takeOne 37 = .ok (.idiv, 1) := by decide +kernel
theorem dX5_takeOne_38 : decode cX5_takeOne 38 = .ok (.goto 10, 3) := by decide +kernel
theorem dX5_takeOne_41 : decode cX5_takeOne 41 = .ok (.aload_n 0, 1) := by decide +kernel
theorem dX5_takeOne_42 : decode cX5_takeOne 42 = .ok (.getfield 9, 3) := by decide +kernel
theorem dX5_takeOne_45 : decode cX5_takeOne 45 = .ok (.getfield 96, 3) := by decide +kernel
theorem dX5_takeOne_48 : decode cX5_takeOne 48 = .ok (.istore_n 3, 1) := by decide +kernel
theorem dX5_takeOne_49 : decode cX5_takeOne 49 = .ok (.iconst 0, 1) := by decide +kernel
theorem dX5_takeOne_50 : decode cX5_takeOne 50 = .ok (.istore 4, 2) := by decide +kernel
theorem dX5_takeOne_52 : decode cX5_takeOne 52 = .ok (.aload_n 1, 1) := by decide +kernel
theorem dX5_takeOne_53 : decode cX5_takeOne 53 = .ok (.getfield 87, 3) := by decide +kernel
theorem dX5_takeOne_56 : decode cX5_takeOne 56 = .ok (.tableswitch 63 1 4 #[32, 43, 63, 52], 32) := by decide +kernel
theorem dX5_takeOne_88 : decode cX5_takeOne 88 = .ok (.aload_n 0, 1) := by decide +kernel
theorem dX5_takeOne_89 : decode cX5_takeOne 89 = .ok (.aload_n 1, 1) := by decide +kernel
theorem dX5_takeOne_90 : decode cX5_takeOne 90 = .ok (.iload_n 3, 1) := by decide +kernel
theorem dX5_takeOne_91 : decode cX5_takeOne 91 = .ok (.invokevirtual 99, 3) := by decide +kernel
theorem dX5_takeOne_94 : decode cX5_takeOne 94 = .ok (.istore 4, 2) := by decide +kernel
theorem dX5_takeOne_96 : decode cX5_takeOne 96 = .ok (.goto 23, 3) := by decide +kernel
theorem dX5_takeOne_99 : decode cX5_takeOne 99 = .ok (.aload_n 0, 1) := by decide +kernel
theorem dX5_takeOne_100 : decode cX5_takeOne 100 = .ok (.aload_n 1, 1) := by decide +kernel
theorem dX5_takeOne_101 : decode cX5_takeOne 101 = .ok (.iload_n 3, 1) := by decide +kernel
theorem dX5_takeOne_102 : decode cX5_takeOne 102 = .ok (.invokevirtual 103, 3) := by decide +kernel
theorem dX5_takeOne_105 : decode cX5_takeOne 105 = .ok (.goto 14, 3) := by decide +kernel
theorem dX5_takeOne_108 : decode cX5_takeOne 108 = .ok (.aload_n 0, 1) := by decide +kernel
theorem dX5_takeOne_109 : decode cX5_takeOne 109 = .ok (.aload_n 1, 1) := by decide +kernel
theorem dX5_takeOne_110 : decode cX5_takeOne 110 = .ok (.iload_n 3, 1) := by decide +kernel
theorem dX5_takeOne_111 : decode cX5_takeOne 111 = .ok (.invokevirtual 107, 3) := by decide +kernel
theorem dX5_takeOne_114 : decode cX5_takeOne 114 = .ok (.istore 4, 2) := by decide +kernel
theorem dX5_takeOne_116 : decode cX5_takeOne 116 = .ok (.goto 3, 3) := by decide +kernel
theorem dX5_takeOne_119 : decode cX5_takeOne 119 = .ok (.iload_n 2, 1) := by decide +kernel
theorem dX5_takeOne_120 : decode cX5_takeOne 120 = .ok (.ifCond .eq 21, 3) := by decide +kernel
theorem dX5_takeOne_123 : decode cX5_takeOne 123 = .ok (.aload_n 1, 1) := by decide +kernel
theorem dX5_takeOne_124 : decode cX5_takeOne 124 = .ok (.iconst 3, 1) := by decide +kernel
theorem dX5_takeOne_125 : decode cX5_takeOne 125 = .ok (.invokevirtual 110, 3) := by decide +kernel
theorem dX5_takeOne_128 : decode cX5_takeOne 128 = .ok (.aload_n 0, 1) := by decide +kernel
theorem dX5_takeOne_129 : decode cX5_takeOne 129 = .ok (.getfield 15, 3) := by decide +kernel
theorem dX5_takeOne_132 : decode cX5_takeOne 132 = .ok (.bipush 12, 2) := by decide +kernel
theorem dX5_takeOne_134 : decode cX5_takeOne 134 = .ok (.iconst 1, 1) := by decide +kernel
theorem dX5_takeOne_135 : decode cX5_takeOne 135 = .ok (.invokevirtual 66, 3) := by decide +kernel
theorem dX5_takeOne_138 : decode cX5_takeOne 138 = .ok (.goto 19, 3) := by decide +kernel
theorem dX5_takeOne_141 : decode cX5_takeOne 141 = .ok (.aload_n 0, 1) := by decide +kernel
theorem dX5_takeOne_142 : decode cX5_takeOne 142 = .ok (.aload_n 1, 1) := by decide +kernel
theorem dX5_takeOne_143 : decode cX5_takeOne 143 = .ok (.iload 4, 2) := by decide +kernel
theorem dX5_takeOne_145 : decode cX5_takeOne 145 = .ok (.iload_n 3, 1) := by decide +kernel
theorem dX5_takeOne_146 : decode cX5_takeOne 146 = .ok (.if_icmp .ge 7, 3) := by decide +kernel
theorem dX5_takeOne_149 : decode cX5_takeOne 149 = .ok (.iconst 1, 1) := by decide +kernel
theorem dX5_takeOne_150 : decode cX5_takeOne 150 = .ok (.goto 4, 3) := by decide +kernel
theorem dX5_takeOne_153 : decode cX5_takeOne 153 = .ok (.iconst 0, 1) := by decide +kernel
theorem dX5_takeOne_154 : decode cX5_takeOne 154 = .ok (.invokevirtual 114, 3) := by decide +kernel
theorem dX5_takeOne_157 : decode cX5_takeOne 157 = .ok (.return_, 1) := by decide +kernel
theorem dX5_goFurther_0 : decode cX5_goFurther 0 = .ok (.aload_n 1, 1) := by decide +kernel
theorem dX5_goFurther_1 : decode cX5_goFurther 1 = .ok (.getfield 87, 3) := by decide +kernel
theorem dX5_goFurther_4 : decode cX5_goFurther 4 = .ok (.iconst 3, 1) := by decide +kernel
theorem dX5_goFurther_5 : decode cX5_goFurther 5 = .ok (.if_icmp .ne 11, 3) := by decide +kernel
theorem dX5_goFurther_8 : decode cX5_goFurther 8 = .ok (.aload_n 0, 1) := by decide +kernel
theorem dX5_goFurther_9 : decode cX5_goFurther 9 = .ok (.aload_n 1, 1) := by decide +kernel
theorem dX5_goFurther_10 : decode cX5_goFurther 10 = .ok (.invokevirtual 118, 3) := by decide +kernel
theorem dX5_goFurther_13 : decode cX5_goFurther 13 = .ok (.goto 60, 3) := by decide +kernel
theorem dX5_goFurther_16 : decode cX5_goFurther 16 = .ok (.aload_n 1, 1) := by decide +kernel
theorem dX5_goFurther_17 : decode cX5_goFurther 17 = .ok (.getfield 87, 3) := by decide +kernel
theorem dX5_goFurther_20 : decode cX5_goFurther 20 = .ok (.iconst 2, 1) := by decide +kernel
theorem dX5_goFurther_21 : decode cX5_goFurther 21 = .ok (.if_icmp .ne 18, 3) := by decide +kernel
theorem dX5_goFurther_24 : decode cX5_goFurther 24 = .ok (.aload_n 1, 1) := by decide +kernel
theorem dX5_goFurther_25 : decode cX5_goFurther 25 = .ok (.getfield 121, 3) := by decide +kernel
theorem dX5_goFurther_28 : decode cX5_goFurther 28 = .ok (.ifCond .ne 45, 3) := by decide +kernel
theorem dX5_goFurther_31 : decode cX5_goFurther 31 = .ok (.aload_n 1, 1) := by decide +kernel
theorem dX5_goFurther_32 : decode cX5_goFurther 32 = .ok (.iconst 3, 1) := by decide +kernel
theorem dX5_goFurther_33 : decode cX5_goFurther 33 = .ok (.putfield 87, 3) := by decide +kernel
theorem dX5_goFurther_36 : decode cX5_goFurther 36 = .ok (.goto 37, 3) := by decide +kernel
theorem dX5_goFurther_39 : decode cX5_goFurther 39 = .ok (.iload_n 2, 1) := by decide +kernel
theorem dX5_goFurther_40 : decode cX5_goFurther 40 = .ok (.ifCond .eq 33, 3) := by decide +kernel
theorem dX5_goFurther_43 : decode cX5_goFurther 43 = .ok (.aload_n 1, 1) := by decide +kernel
theorem dX5_goFurther_44 : decode cX5_goFurther 44 = .ok (.aload_n 1, 1) := by decide +kernel
theorem dX5_goFurther_45 : decode cX5_goFurther 45 = .ok (.getfield 124, 3) := by decide +kernel
theorem dX5_goFurther_48 : decode cX5_goFurther 48 = .ok (.putfield 127, 3) := by decide +kernel
theorem dX5_goFurther_51 : decode cX5_goFurther 51 = .ok (.aload_n 1, 1) := by decide +kernel
theorem dX5_goFurther_52 : decode cX5_goFurther 52 = .ok (.getfield 87, 3) := by decide +kernel
theorem dX5_goFurther_55 : decode cX5_goFurther 55 = .ok (.iconst 1, 1) := by decide +kernel
theorem dX5_goFurther_56 : decode cX5_goFurther 56 = .ok (.if_icmp .ne 11, 3) := by decide +kernel
theorem dX5_goFurther_59 : decode cX5_goFurther 59 = .ok (.aload_n 1, 1) := by decide +kernel
theorem dX5_goFurther_60 : decode cX5_goFurther 60 = .ok (.iconst 2, 1) := by decide +kernel
theorem dX5_goFurther_61 : decode cX5_goFurther 61 = .ok (.putfield 87, 3) := by decide +kernel
theorem dX5_goFurther_64 : decode cX5_goFurther 64 = .ok (.goto 9, 3) := by decide +kernel
theorem dX5_goFurther_67 : decode cX5_goFurther 67 = .ok (.aload_n 0, 1) := by decide +kernel
theorem dX5_goFurther_68 : decode cX5_goFurther 68 = .ok (.aload_n 1, 1) := by decide +kernel
theorem dX5_goFurther_69 : decode cX5_goFurther 69 = .ok (.iconst 5, 1) := by decide +kernel
theorem dX5_goFurther_70 : decode cX5_goFurther 70 = .ok (.invokevirtual 130, 3) := by decide +kernel
theorem dX5_goFurther_73 : decode cX5_goFurther 73 = .ok (.return_, 1) := by decide +kernel
theorem dX5_copySome_0 : decode cX5_copySome 0 = .ok (.iconst 0, 1) := by decide +kernel
theorem dX5_copySome_1 : decode cX5_copySome 1 = .ok (.istore_n 3, 1) := by decide +kernel
theorem dX5_copySome_2 : decode cX5_copySome 2 = .ok (.aload_n 1, 1) := by decide +kernel
theorem dX5_copySome_3 : decode cX5_copySome 3 = .ok (.getfield 127, 3) := by decide +kernel
theorem dX5_copySome_6 : decode cX5_copySome 6 = .ok (.istore 4, 2) := by decide +kernel
theorem dX5_copySome_8 : decode cX5_copySome 8 = .ok (.iload 4, 2) := by decide +kernel
theorem dX5_copySome_10 : decode cX5_copySome 10 = .ok (.aload_n 1, 1) := by decide +kernel
theorem dX5_copySome_11 : decode cX5_copySome 11 = .ok (.getfield 124, 3) := by decide +kernel
theorem dX5_copySome_14 : decode cX5_copySome 14 = .ok (.if_icmp .ge 60, 3) := by decide +kernel
theorem dX5_copySome_17 : decode cX5_copySome 17 = .ok (.iload_n 3, 1) := by decide +kernel
theorem dX5_copySome_18 : decode cX5_copySome 18 = .ok (.iload_n 2, 1) := by decide +kernel
theorem dX5_copySome_19 : decode cX5_copySome 19 = .ok (.if_icmp .ge 55, 3) := by decide +kernel
theorem dX5_copySome_22 : decode cX5_copySome 22 = .ok (.aload_n 0, 1) := by decide +kernel
theorem dX5_copySome_23 : decode cX5_copySome 23 = .ok (.getfield 9, 3) := by decide +kernel
theorem dX5_copySome_26 : decode cX5_copySome 26 = .ok (.aload_n 1, 1) := by decide +kernel
theorem dX5_copySome_27 : decode cX5_copySome 27 = .ok (.getfield 133, 3) := by decide +kernel
theorem dX5_copySome_30 : decode cX5_copySome 30 = .ok (.iload 4, 2) := by decide +kernel
theorem dX5_copySome_32 : decode cX5_copySome 32 = .ok (.invokevirtual 136, 3) := by decide +kernel
theorem dX5_copySome_35 : decode cX5_copySome 35 = .ok (.istore 5, 2) := by decide +kernel
theorem dX5_copySome_37 : decode cX5_copySome 37 = .ok (.iload 5, 2) := by decide +kernel
theorem dX5_copySome_39 : decode cX5_copySome 39 = .ok (.ifCond .eq 29, 3) := by decide +kernel
theorem dX5_copySome_42 : decode cX5_copySome 42 = .ok (.aload_n 0, 1) := by decide +kernel
theorem dX5_copySome_43 : decode cX5_copySome 43 = .ok (.getfield 9, 3) := by decide +kernel
theorem dX5_copySome_46 : decode cX5_copySome 46 = .ok (.aload_n 1, 1) := by decide +kernel
theorem dX5_copySome_47 : decode cX5_copySome 47 = .ok (.getfield 140, 3) := by decide +kernel
theorem dX5_copySome_50 : decode cX5_copySome 50 = .ok (.iload 4, 2) := by decide +kernel
theorem dX5_copySome_52 : decode cX5_copySome 52 = .ok (.iload 5, 2) := by decide +kernel
theorem dX5_copySome_54 : decode cX5_copySome 54 = .ok (.invokevirtual 143, 3) := by decide +kernel
theorem dX5_copySome_57 : decode cX5_copySome 57 = .ok (.aload_n 1, 1) := by decide +kernel
theorem dX5_copySome_58 : decode cX5_copySome 58 = .ok (.iload 4, 2) := by decide +kernel
theorem dX5_copySome_60 : decode cX5_copySome 60 = .ok (.iconst 1, 1) := by decide +kernel
theorem dX5_copySome_61 : decode cX5_copySome 61 = .ok (.iadd, 1) := by decide +kernel
theorem dX5_copySome_62 : decode cX5_copySome 62 = .ok (.putfield 127, 3) := by decide +kernel
theorem dX5_copySome_65 : decode cX5_copySome 65 = .ok (.iinc 3 1, 3) := by decide +kernel
theorem dX5_copySome_68 : decode cX5_copySome 68 = .ok (.iinc 4 1, 3) := by decide +kernel
theorem dX5_copySome_71 : decode cX5_copySome 71 = .ok (.goto (-63), 3) := by decide +kernel
theorem dX5_copySome_74 : decode cX5_copySome 74 = .ok (.aload_n 0, 1) := by decide +kernel
theorem dX5_copySome_75 : decode cX5_copySome 75 = .ok (.getfield 15, 3) := by decide +kernel
theorem dX5_copySome_78 : decode cX5_copySome 78 = .ok (.bipush 13, 2) := by decide +kernel
theorem dX5_copySome_80 : decode cX5_copySome 80 = .ok (.iload_n 3, 1) := by decide +kernel
theorem dX5_copySome_81 : decode cX5_copySome 81 = .ok (.invokevirtual 66, 3) := by decide +kernel
theorem dX5_copySome_84 : decode cX5_copySome 84 = .ok (.iload_n 3, 1) := by decide +kernel
theorem dX5_copySome_85 : decode cX5_copySome 85 = .ok (.ireturn, 1) := by decide +kernel
theorem dX5_catchUpSome_0 : decode cX5_catchUpSome 0 = .ok (.iload_n 2, 1) := by decide +kernel
theorem dX5_catchUpSome_1 : decode cX5_catchUpSome 1 = .ok (.aload_n 1, 1) := by decide +kernel
theorem dX5_catchUpSome_2 : decode cX5_catchUpSome 2 = .ok (.getfield 121, 3) := by decide +kernel
theorem dX5_catchUpSome_5 : decode cX5_catchUpSome 5 = .ok (.invokestatic 147, 3) := by decide +kernel
theorem dX5_catchUpSome_8 : decode cX5_catchUpSome 8 = .ok (.istore_n 3, 1) := by decide +kernel
theorem dX5_catchUpSome_9 : decode cX5_catchUpSome 9 = .ok (.iconst 0, 1) := by decide +kernel
theorem dX5_catchUpSome_10 : decode cX5_catchUpSome 10 = .ok (.istore 4, 2) := by decide +kernel
theorem dX5_catchUpSome_12 : decode cX5_catchUpSome 12 = .ok (.iload 4, 2) := by decide +kernel
theorem dX5_catchUpSome_14 : decode cX5_catchUpSome 14 = .ok (.iload_n 3, 1) := by decide +kernel
theorem dX5_catchUpSome_15 : decode cX5_catchUpSome 15 = .ok (.if_icmp .ge 45, 3) := by decide +kernel
theorem dX5_catchUpSome_18 : decode cX5_catchUpSome 18 = .ok (.aload_n 0, 1) := by decide +kernel
theorem dX5_catchUpSome_19 : decode cX5_catchUpSome 19 = .ok (.getfield 9, 3) := by decide +kernel
theorem dX5_catchUpSome_22 : decode cX5_catchUpSome 22 = .ok (.aload_n 1, 1) := by decide +kernel
theorem dX5_catchUpSome_23 : decode cX5_catchUpSome 23 = .ok (.getfield 140, 3) := by decide +kernel
theorem dX5_catchUpSome_26 : decode cX5_catchUpSome 26 = .ok (.aload_n 1, 1) := by decide +kernel
theorem dX5_catchUpSome_27 : decode cX5_catchUpSome 27 = .ok (.getfield 152, 3) := by decide +kernel
theorem dX5_catchUpSome_30 : decode cX5_catchUpSome 30 = .ok (.iload 4, 2) := by decide +kernel
theorem dX5_catchUpSome_32 : decode cX5_catchUpSome 32 = .ok (.iaload, 1) := by decide +kernel
theorem dX5_catchUpSome_33 : decode cX5_catchUpSome 33 = .ok (.aload_n 0, 1) := by decide +kernel
theorem dX5_catchUpSome_34 : decode cX5_catchUpSome 34 = .ok (.getfield 9, 3) := by decide +kernel
theorem dX5_catchUpSome_37 : decode cX5_catchUpSome 37 = .ok (.aload_n 1, 1) := by decide +kernel
theorem dX5_catchUpSome_38 : decode cX5_catchUpSome 38 = .ok (.getfield 133, 3) := by decide +kernel
theorem dX5_catchUpSome_41 : decode cX5_catchUpSome 41 = .ok (.aload_n 1, 1) := by decide +kernel
theorem dX5_catchUpSome_42 : decode cX5_catchUpSome 42 = .ok (.getfield 152, 3) := by decide +kernel
theorem dX5_catchUpSome_45 : decode cX5_catchUpSome 45 = .ok (.iload 4, 2) := by decide +kernel
theorem dX5_catchUpSome_47 : decode cX5_catchUpSome 47 = .ok (.iaload, 1) := by decide +kernel
theorem dX5_catchUpSome_48 : decode cX5_catchUpSome 48 = .ok (.invokevirtual 136, 3) := by decide +kernel
theorem dX5_catchUpSome_51 : decode cX5_catchUpSome 51 = .ok (.invokevirtual 143, 3) := by decide +kernel
theorem dX5_catchUpSome_54 : decode cX5_catchUpSome 54 = .ok (.iinc 4 1, 3) := by decide +kernel
theorem dX5_catchUpSome_57 : decode cX5_catchUpSome 57 = .ok (.goto (-45), 3) := by decide +kernel
theorem dX5_catchUpSome_60 : decode cX5_catchUpSome 60 = .ok (.aload_n 1, 1) := by decide +kernel
theorem dX5_catchUpSome_61 : decode cX5_catchUpSome 61 = .ok (.iload_n 3, 1) := by decide +kernel
theorem dX5_catchUpSome_62 : decode cX5_catchUpSome 62 = .ok (.invokevirtual 155, 3) := by decide +kernel
theorem dX5_catchUpSome_65 : decode cX5_catchUpSome 65 = .ok (.aload_n 0, 1) := by decide +kernel
theorem dX5_catchUpSome_66 : decode cX5_catchUpSome 66 = .ok (.getfield 15, 3) := by decide +kernel
theorem dX5_catchUpSome_69 : decode cX5_catchUpSome 69 = .ok (.bipush 13, 2) := by decide +kernel
theorem dX5_catchUpSome_71 : decode cX5_catchUpSome 71 = .ok (.iload_n 3, 1) := by decide +kernel
theorem dX5_catchUpSome_72 : decode cX5_catchUpSome 72 = .ok (.invokevirtual 66, 3) := by decide +kernel
theorem dX5_catchUpSome_75 : decode cX5_catchUpSome 75 = .ok (.return_, 1) := by decide +kernel
theorem dX5_cleanSome_0 : decode cX5_cleanSome 0 = .ok (.iconst 0, 1) := by decide +kernel
theorem dX5_cleanSome_1 : decode cX5_cleanSome 1 = .ok (.istore_n 3, 1) := by decide +kernel
theorem dX5_cleanSome_2 : decode cX5_cleanSome 2 = .ok (.aload_n 1, 1) := by decide +kernel
theorem dX5_cleanSome_3 : decode cX5_cleanSome 3 = .ok (.getfield 127, 3) := by decide +kernel
theorem dX5_cleanSome_6 : decode cX5_cleanSome 6 = .ok (.istore 4, 2) := by decide +kernel
theorem dX5_cleanSome_8 : decode cX5_cleanSome 8 = .ok (.iload 4, 2) := by decide +kernel
theorem dX5_cleanSome_10 : decode cX5_cleanSome 10 = .ok (.aload_n 1, 1) := by decide +kernel
theorem dX5_cleanSome_11 : decode cX5_cleanSome 11 = .ok (.getfield 124, 3) := by decide +kernel
theorem dX5_cleanSome_14 : decode cX5_cleanSome 14 = .ok (.if_icmp .ge 55, 3) := by decide +kernel
theorem dX5_cleanSome_17 : decode cX5_cleanSome 17 = .ok (.iload_n 3, 1) := by decide +kernel
theorem dX5_cleanSome_18 : decode cX5_cleanSome 18 = .ok (.iload_n 2, 1) := by decide +kernel
theorem dX5_cleanSome_19 : decode cX5_cleanSome 19 = .ok (.if_icmp .ge 50, 3) := by decide +kernel
theorem dX5_cleanSome_22 : decode cX5_cleanSome 22 = .ok (.aload_n 0, 1) := by decide +kernel
theorem dX5_cleanSome_23 : decode cX5_cleanSome 23 = .ok (.getfield 9, 3) := by decide +kernel
theorem dX5_cleanSome_26 : decode cX5_cleanSome 26 = .ok (.aload_n 1, 1) := by decide +kernel
theorem dX5_cleanSome_27 : decode cX5_cleanSome 27 = .ok (.getfield 133, 3) := by decide +kernel
theorem dX5_cleanSome_30 : decode cX5_cleanSome 30 = .ok (.iload 4, 2) := by decide +kernel
theorem dX5_cleanSome_32 : decode cX5_cleanSome 32 = .ok (.invokevirtual 136, 3) := by decide +kernel
theorem dX5_cleanSome_35 : decode cX5_cleanSome 35 = .ok (.ifCond .eq 28, 3) := by decide +kernel
theorem dX5_cleanSome_38 : decode cX5_cleanSome 38 = .ok (.aload_n 0, 1) := by decide +kernel
theorem dX5_cleanSome_39 : decode cX5_cleanSome 39 = .ok (.getfield 9, 3) := by decide +kernel
theorem dX5_cleanSome_42 : decode cX5_cleanSome 42 = .ok (.aload_n 1, 1) := by decide +kernel
theorem dX5_cleanSome_43 : decode cX5_cleanSome 43 = .ok (.getfield 133, 3) := by decide +kernel
theorem dX5_cleanSome_46 : decode cX5_cleanSome 46 = .ok (.iload 4, 2) := by decide +kernel
theorem dX5_cleanSome_48 : decode cX5_cleanSome 48 = .ok (.iconst 0, 1) := by decide +kernel
theorem dX5_cleanSome_49 : decode cX5_cleanSome 49 = .ok (.invokevirtual 143, 3) := by decide +kernel
theorem dX5_cleanSome_52 : decode cX5_cleanSome 52 = .ok (.aload_n 1, 1) := by decide +kernel
theorem dX5_cleanSome_53 : decode cX5_cleanSome 53 = .ok (.iload 4, 2) := by decide +kernel
theorem dX5_cleanSome_55 : decode cX5_cleanSome 55 = .ok (.iconst 1, 1) := by decide +kernel
theorem dX5_cleanSome_56 : decode cX5_cleanSome 56 = .ok (.iadd, 1) := by decide +kernel
theorem dX5_cleanSome_57 : decode cX5_cleanSome 57 = .ok (.putfield 127, 3) := by decide +kernel
theorem dX5_cleanSome_60 : decode cX5_cleanSome 60 = .ok (.iinc 3 1, 3) := by decide +kernel
theorem dX5_cleanSome_63 : decode cX5_cleanSome 63 = .ok (.iinc 4 1, 3) := by decide +kernel
theorem dX5_cleanSome_66 : decode cX5_cleanSome 66 = .ok (.goto (-58), 3) := by decide +kernel
theorem dX5_cleanSome_69 : decode cX5_cleanSome 69 = .ok (.aload_n 0, 1) := by decide +kernel
theorem dX5_cleanSome_70 : decode cX5_cleanSome 70 = .ok (.getfield 15, 3) := by decide +kernel
theorem dX5_cleanSome_73 : decode cX5_cleanSome 73 = .ok (.bipush 14, 2) := by decide +kernel
theorem dX5_cleanSome_75 : decode cX5_cleanSome 75 = .ok (.iload_n 3, 1) := by decide +kernel
theorem dX5_cleanSome_76 : decode cX5_cleanSome 76 = .ok (.invokevirtual 66, 3) := by decide +kernel
theorem dX5_cleanSome_79 : decode cX5_cleanSome 79 = .ok (.iload_n 3, 1) := by decide +kernel
theorem dX5_cleanSome_80 : decode cX5_cleanSome 80 = .ok (.ireturn, 1) := by decide +kernel
theorem dX5_switchOwner_0 : decode cX5_switchOwner 0 = .ok (.aload_n 0, 1) := by decide +kernel
theorem dX5_switchOwner_1 : decode cX5_switchOwner 1 = .ok (.getfield 9, 3) := by decide +kernel
theorem dX5_switchOwner_4 : decode cX5_switchOwner 4 = .ok (.getfield 19, 3) := by decide +kernel
theorem dX5_switchOwner_7 : decode cX5_switchOwner 7 = .ok (.astore_n 2, 1) := by decide +kernel
theorem dX5_switchOwner_8 : decode cX5_switchOwner 8 = .ok (.aload_n 2, 1) := by decide +kernel
theorem dX5_switchOwner_9 : decode cX5_switchOwner 9 = .ok (.aload_n 1, 1) := by decide +kernel
theorem dX5_switchOwner_10 : decode cX5_switchOwner 10 = .ok (.getfield 158, 3) := by decide +kernel
theorem dX5_switchOwner_13 : decode cX5_switchOwner 13 = .ok (.invokevirtual 161, 3) := by decide +kernel
theorem dX5_switchOwner_16 : decode cX5_switchOwner 16 = .ok (.istore_n 3, 1) := by decide +kernel
theorem dX5_switchOwner_17 : decode cX5_switchOwner 17 = .ok (.aload_n 2, 1) := by decide +kernel
theorem dX5_switchOwner_18 : decode cX5_switchOwner 18 = .ok (.dup, 1) := by decide +kernel
theorem dX5_switchOwner_19 : decode cX5_switchOwner 19 = .ok (.getfield 164, 3) := by decide +kernel
theorem dX5_switchOwner_22 : decode cX5_switchOwner 22 = .ok (.iconst 1, 1) := by decide +kernel
theorem dX5_switchOwner_23 : decode cX5_switchOwner 23 = .ok (.iadd, 1) := by decide +kernel
theorem dX5_switchOwner_24 : decode cX5_switchOwner 24 = .ok (.putfield 164, 3) := by decide +kernel
theorem dX5_switchOwner_27 : decode cX5_switchOwner 27 = .ok (.aload_n 2, 1) := by decide +kernel
theorem dX5_switchOwner_28 : decode cX5_switchOwner 28 = .ok (.iload_n 3, 1) := by decide +kernel
theorem dX5_switchOwner_29 : decode cX5_switchOwner 29 = .ok (.aload_n 1, 1) := by decide +kernel
theorem dX5_switchOwner_30 : decode cX5_switchOwner 30 = .ok (.getfield 158, 3) := by decide +kernel
theorem dX5_switchOwner_33 : decode cX5_switchOwner 33 = .ok (.aload_n 1, 1) := by decide +kernel
theorem dX5_switchOwner_34 : decode cX5_switchOwner 34 = .ok (.getfield 140, 3) := by decide +kernel
theorem dX5_switchOwner_37 : decode cX5_switchOwner 37 = .ok (.invokevirtual 167, 3) := by decide +kernel
theorem dX5_switchOwner_40 : decode cX5_switchOwner 40 = .ok (.aload_n 0, 1) := by decide +kernel
theorem dX5_switchOwner_41 : decode cX5_switchOwner 41 = .ok (.getfield 15, 3) := by decide +kernel
theorem dX5_switchOwner_44 : decode cX5_switchOwner 44 = .ok (.aload_n 2, 1) := by decide +kernel
theorem dX5_switchOwner_45 : decode cX5_switchOwner 45 = .ok (.getfield 164, 3) := by decide +kernel
theorem dX5_switchOwner_48 : decode cX5_switchOwner 48 = .ok (.iconst 3, 1) := by decide +kernel
theorem dX5_switchOwner_49 : decode cX5_switchOwner 49 = .ok (.aload_n 1, 1) := by decide +kernel
theorem dX5_switchOwner_50 : decode cX5_switchOwner 50 = .ok (.getfield 158, 3) := by decide +kernel
theorem dX5_switchOwner_53 : decode cX5_switchOwner 53 = .ok (.aload_n 1, 1) := by decide +kernel
theorem dX5_switchOwner_54 : decode cX5_switchOwner 54 = .ok (.getfield 140, 3) := by decide +kernel
theorem dX5_switchOwner_57 : decode cX5_switchOwner 57 = .ok (.invokevirtual 170, 3) := by decide +kernel
theorem dX5_switchOwner_60 : decode cX5_switchOwner 60 = .ok (.aload_n 1, 1) := by decide +kernel
theorem dX5_switchOwner_61 : decode cX5_switchOwner 61 = .ok (.aload_n 2, 1) := by decide +kernel
theorem dX5_switchOwner_62 : decode cX5_switchOwner 62 = .ok (.getfield 164, 3) := by decide +kernel
theorem dX5_switchOwner_65 : decode cX5_switchOwner 65 = .ok (.putfield 173, 3) := by decide +kernel
theorem dX5_switchOwner_68 : decode cX5_switchOwner 68 = .ok (.aload_n 1, 1) := by decide +kernel
theorem dX5_switchOwner_69 : decode cX5_switchOwner 69 = .ok (.iconst 4, 1) := by decide +kernel
theorem dX5_switchOwner_70 : decode cX5_switchOwner 70 = .ok (.putfield 87, 3) := by decide +kernel
theorem dX5_switchOwner_73 : decode cX5_switchOwner 73 = .ok (.aload_n 1, 1) := by decide +kernel
theorem dX5_switchOwner_74 : decode cX5_switchOwner 74 = .ok (.aload_n 1, 1) := by decide +kernel
theorem dX5_switchOwner_75 : decode cX5_switchOwner 75 = .ok (.getfield 158, 3) := by decide +kernel
theorem dX5_switchOwner_78 : decode cX5_switchOwner 78 = .ok (.putfield 127, 3) := by decide +kernel
theorem dX5_switchOwner_81 : decode cX5_switchOwner 81 = .ok (.return_, 1) := by decide +kernel
theorem dX5_endAs_0 : decode cX5_endAs 0 = .ok (.aload_n 1, 1) := by decide +kernel
theorem dX5_endAs_1 : decode cX5_endAs 1 = .ok (.iload_n 2, 1) := by decide +kernel
theorem dX5_endAs_2 : decode cX5_endAs 2 = .ok (.putfield 87, 3) := by decide +kernel
theorem dX5_endAs_5 : decode cX5_endAs 5 = .ok (.aload_n 0, 1) := by decide +kernel
theorem dX5_endAs_6 : decode cX5_endAs 6 = .ok (.getfield 15, 3) := by decide +kernel
theorem dX5_endAs_9 : decode cX5_endAs 9 = .ok (.iload_n 2, 1) := by decide +kernel
theorem dX5_endAs_10 : decode cX5_endAs 10 = .ok (.iconst 5, 1) := by decide +kernel
theorem dX5_endAs_11 : decode cX5_endAs 11 = .ok (.if_icmp .ne 8, 3) := by decide +kernel
theorem dX5_endAs_14 : decode cX5_endAs 14 = .ok (.bipush 9, 2) := by decide +kernel
theorem dX5_endAs_16 : decode cX5_endAs 16 = .ok (.goto 5, 3) := by decide +kernel
theorem dX5_endAs_19 : decode cX5_endAs 19 = .ok (.bipush 10, 2) := by decide +kernel
theorem dX5_endAs_21 : decode cX5_endAs 21 = .ok (.iconst 1, 1) := by decide +kernel
theorem dX5_endAs_22 : decode cX5_endAs 22 = .ok (.invokevirtual 66, 3) := by decide +kernel
theorem dX5_endAs_25 : decode cX5_endAs 25 = .ok (.return_, 1) := by decide +kernel
theorem dX5_tellToFail_0 : decode cX5_tellToFail 0 = .ok (.iload_n 2, 1) := by decide +kernel
theorem dX5_tellToFail_1 : decode cX5_tellToFail 1 = .ok (.ifCond .lt 35, 3) := by decide +kernel
theorem dX5_tellToFail_4 : decode cX5_tellToFail 4 = .ok (.iload_n 2, 1) := by decide +kernel
theorem dX5_tellToFail_5 : decode cX5_tellToFail 5 = .ok (.bipush 99, 2) := by decide +kernel
theorem dX5_tellToFail_7 : decode cX5_tellToFail 7 = .ok (.if_icmp .gt 29, 3) := by decide +kernel
theorem dX5_tellToFail_10 : decode cX5_tellToFail 10 = .ok (.aload_n 0, 1) := by decide +kernel
theorem dX5_tellToFail_11 : decode cX5_tellToFail 11 = .ok (.getfield 9, 3) := by decide +kernel
theorem dX5_tellToFail_14 : decode cX5_tellToFail 14 = .ok (.iload_n 1, 1) := by decide +kernel
theorem dX5_tellToFail_15 : decode cX5_tellToFail 15 = .ok (.invokevirtual 174, 3) := by decide +kernel
theorem dX5_tellToFail_18 : decode cX5_tellToFail 18 = .ok (.ifCond .eq 18, 3) := by decide +kernel
theorem dX5_tellToFail_21 : decode cX5_tellToFail 21 = .ok (.aload_n 0, 1) := by decide +kernel
theorem dX5_tellToFail_22 : decode cX5_tellToFail 22 = .ok (.getfield 9, 3) := by decide +kernel
theorem dX5_tellToFail_25 : decode cX5_tellToFail 25 = .ok (.getfield 53, 3) := by decide +kernel
theorem dX5_tellToFail_28 : decode cX5_tellToFail 28 = .ok (.iload_n 1, 1) := by decide +kernel
theorem dX5_tellToFail_29 : decode cX5_tellToFail 29 = .ok (.aaload, 1) := by decide +kernel
theorem dX5_tellToFail_30 : decode cX5_tellToFail 30 = .ok (.invokevirtual 75, 3) := by decide +kernel
theorem dX5_tellToFail_33 : decode cX5_tellToFail 33 = .ok (.ifCond .ne 5, 3) := by decide +kernel
theorem dX5_tellToFail_36 : decode cX5_tellToFail 36 = .ok (.iconst 0, 1) := by decide +kernel
theorem dX5_tellToFail_37 : decode cX5_tellToFail 37 = .ok (.ireturn, 1) := by decide +kernel
theorem dX5_tellToFail_38 : decode cX5_tellToFail 38 = .ok (.aload_n 0, 1) := by decide +kernel
theorem dX5_tellToFail_39 : decode cX5_tellToFail 39 = .ok (.getfield 9, 3) := by decide +kernel
theorem dX5_tellToFail_42 : decode cX5_tellToFail 42 = .ok (.getfield 53, 3) := by decide +kernel
theorem dX5_tellToFail_45 : decode cX5_tellToFail 45 = .ok (.iload_n 1, 1) := by decide +kernel
theorem dX5_tellToFail_46 : decode cX5_tellToFail 46 = .ok (.aaload, 1) := by decide +kernel
theorem dX5_tellToFail_47 : decode cX5_tellToFail 47 = .ok (.iload_n 2, 1) := by decide +kernel
theorem dX5_tellToFail_48 : decode cX5_tellToFail 48 = .ok (.putfield 177, 3) := by decide +kernel
theorem dX5_tellToFail_51 : decode cX5_tellToFail 51 = .ok (.iconst 1, 1) := by decide +kernel
theorem dX5_tellToFail_52 : decode cX5_tellToFail 52 = .ok (.ireturn, 1) := by decide +kernel
theorem dX5_takeDown_0 : decode cX5_takeDown 0 = .ok (.iload_n 1, 1) := by decide +kernel
theorem dX5_takeDown_1 : decode cX5_takeDown 1 = .ok (.invokestatic 31, 3) := by decide +kernel
theorem dX5_takeDown_4 : decode cX5_takeDown 4 = .ok (.ifCond .eq 14, 3) := by decide +kernel
theorem dX5_takeDown_7 : decode cX5_takeDown 7 = .ok (.aload_n 0, 1) := by decide +kernel
theorem dX5_takeDown_8 : decode cX5_takeDown 8 = .ok (.getfield 9, 3) := by decide +kernel
theorem dX5_takeDown_11 : decode cX5_takeDown 11 = .ok (.iload_n 1, 1) := by decide +kernel
theorem dX5_takeDown_12 : decode cX5_takeDown 12 = .ok (.invokevirtual 39, 3) := by decide +kernel
theorem dX5_takeDown_15 : decode cX5_takeDown 15 = .ok (.ifCond .ne 5, 3) := by decide +kernel
theorem dX5_takeDown_18 : decode cX5_takeDown 18 = .ok (.iconst (-1), 1) := by decide +kernel
theorem dX5_takeDown_19 : decode cX5_takeDown 19 = .ok (.ireturn, 1) := by decide +kernel
theorem dX5_takeDown_20 : decode cX5_takeDown 20 = .ok (.aload_n 0, 1) := by decide +kernel
theorem dX5_takeDown_21 : decode cX5_takeDown 21 = .ok (.getfield 9, 3) := by decide +kernel
theorem dX5_takeDown_24 : decode cX5_takeDown 24 = .ok (.dup, 1) := by decide +kernel
theorem dX5_takeDown_25 : decode cX5_takeDown 25 = .ok (.getfield 180, 3) := by decide +kernel
theorem dX5_takeDown_28 : decode cX5_takeDown 28 = .ok (.iconst 1, 1) := by decide +kernel
theorem dX5_takeDown_29 : decode cX5_takeDown 29 = .ok (.iload_n 1, 1) := by decide +kernel
theorem dX5_takeDown_30 : decode cX5_takeDown 30 = .ok (.ishl, 1) := by decide +kernel
theorem dX5_takeDown_31 : decode cX5_takeDown 31 = .ok (.iconst (-1), 1) := by decide +kernel
theorem dX5_takeDown_32 : decode cX5_takeDown 32 = .ok (.ixor, 1) := by decide +kernel
theorem dX5_takeDown_33 : decode cX5_takeDown 33 = .ok (.iand, 1) := by decide +kernel
theorem dX5_takeDown_34 : decode cX5_takeDown 34 = .ok (.putfield 180, 3) := by decide +kernel
theorem dX5_takeDown_37 : decode cX5_takeDown 37 = .ok (.iconst 0, 1) := by decide +kernel
theorem dX5_takeDown_38 : decode cX5_takeDown 38 = .ok (.istore_n 2, 1) := by decide +kernel
theorem dX5_takeDown_39 : decode cX5_takeDown 39 = .ok (.iconst 0, 1) := by decide +kernel
theorem dX5_takeDown_40 : decode cX5_takeDown 40 = .ok (.istore_n 3, 1) := by decide +kernel
theorem dX5_takeDown_41 : decode cX5_takeDown 41 = .ok (.iload_n 3, 1) := by decide +kernel
theorem dX5_takeDown_42 : decode cX5_takeDown 42 = .ok (.aload_n 0, 1) := by decide +kernel
theorem dX5_takeDown_43 : decode cX5_takeDown 43 = .ok (.getfield 9, 3) := by decide +kernel
theorem dX5_takeDown_46 : decode cX5_takeDown 46 = .ok (.getfield 45, 3) := by decide +kernel
theorem dX5_takeDown_49 : decode cX5_takeDown 49 = .ok (.if_icmp .ge 94, 3) := by decide +kernel
theorem dX5_takeDown_52 : decode cX5_takeDown 52 = .ok (.aload_n 0, 1) := by decide +kernel
theorem dX5_takeDown_53 : decode cX5_takeDown 53 = .ok (.getfield 9, 3) := by decide +kernel
theorem dX5_takeDown_56 : decode cX5_takeDown 56 = .ok (.getfield 53, 3) := by decide +kernel
theorem dX5_takeDown_59 : decode cX5_takeDown 59 = .ok (.iload_n 3, 1) := by decide +kernel
theorem dX5_takeDown_60 : decode cX5_takeDown 60 = .ok (.aaload, 1) := by decide +kernel
theorem dX5_takeDown_61 : decode cX5_takeDown 61 = .ok (.astore 4, 2) := by decide +kernel
theorem dX5_takeDown_63 : decode cX5_takeDown 63 = .ok (.aload 4, 2) := by decide +kernel
theorem dX5_takeDown_65 : decode cX5_takeDown 65 = .ok (.invokevirtual 75, 3) := by decide +kernel
theorem dX5_takeDown_68 : decode cX5_takeDown 68 = .ok (.ifCond .eq 69, 3) := by decide +kernel
theorem dX5_takeDown_71 : decode cX5_takeDown 71 = .ok (.aload 4, 2) := by decide +kernel
theorem dX5_takeDown_73 : decode cX5_takeDown 73 = .ok (.getfield 133, 3) := by decide +kernel
theorem dX5_takeDown_76 : decode cX5_takeDown 76 = .ok (.iload_n 1, 1) := by decide +kernel
theorem dX5_takeDown_77 : decode cX5_takeDown 77 = .ok (.if_icmp .eq 15, 3) := by decide +kernel
theorem dX5_takeDown_80 : decode cX5_takeDown 80 = .ok (.aload 4, 2) := by decide +kernel
theorem dX5_takeDown_82 : decode cX5_takeDown 82 = .ok (.getfield 140, 3) := by decide +kernel
theorem dX5_takeDown_85 : decode cX5_takeDown 85 = .ok (.iload_n 1, 1) := by decide +kernel
theorem dX5_takeDown_86 : decode cX5_takeDown 86 = .ok (.if_icmp .eq 6, 3) := by decide +kernel
theorem dX5_takeDown_89 : decode cX5_takeDown 89 = .ok (.goto 48, 3) := by decide +kernel
theorem dX5_takeDown_92 : decode cX5_takeDown 92 = .ok (.aload 4, 2) := by decide +kernel
theorem dX5_takeDown_94 : decode cX5_takeDown 94 = .ok (.getfield 133, 3) := by decide +kernel
theorem dX5_takeDown_97 : decode cX5_takeDown 97 = .ok (.iload_n 1, 1) := by decide +kernel
theorem dX5_takeDown_98 : decode cX5_takeDown 98 = .ok (.if_icmp .ne 9, 3) := by decide +kernel
theorem dX5_takeDown_101 : decode cX5_takeDown 101 = .ok (.aload 4, 2) := by decide +kernel
theorem dX5_takeDown_103 : decode cX5_takeDown 103 = .ok (.iconst 0, 1) := by decide +kernel
theorem dX5_takeDown_104 : decode cX5_takeDown 104 = .ok (.putfield 121, 3) := by decide +kernel
theorem dX5_takeDown_107 : decode cX5_takeDown 107 = .ok (.aload 4, 2) := by decide +kernel
theorem dX5_takeDown_109 : decode cX5_takeDown 109 = .ok (.getfield 79, 3) := by decide +kernel
theorem dX5_takeDown_112 : decode cX5_takeDown 112 = .ok (.ifCond .ne 25, 3) := by decide +kernel
theorem dX5_takeDown_115 : decode cX5_takeDown 115 = .ok (.aload 4, 2) := by decide +kernel
theorem dX5_takeDown_117 : decode cX5_takeDown 117 = .ok (.aload 4, 2) := by decide +kernel
theorem dX5_takeDown_119 : decode cX5_takeDown 119 = .ok (.getfield 133, 3) := by decide +kernel
theorem dX5_takeDown_122 : decode cX5_takeDown 122 = .ok (.iload_n 1, 1) := by decide +kernel
theorem dX5_takeDown_123 : decode cX5_takeDown 123 = .ok (.if_icmp .ne 7, 3) := by decide +kernel
theorem dX5_takeDown_126 : decode cX5_takeDown 126 = .ok (.iconst 1, 1) := by decide +kernel
theorem dX5_takeDown_127 : decode cX5_takeDown 127 = .ok (.goto 4, 3) := by decide +kernel
theorem dX5_takeDown_130 : decode cX5_takeDown 130 = .ok (.iconst 2, 1) := by decide +kernel
theorem dX5_takeDown_131 : decode cX5_takeDown 131 = .ok (.invokevirtual 110, 3) := by decide +kernel
theorem dX5_takeDown_134 : decode cX5_takeDown 134 = .ok (.iinc 2 1, 3) := by decide +kernel
theorem dX5_takeDown_137 : decode cX5_takeDown 137 = .ok (.iinc 3 1, 3) := by decide +kernel
theorem dX5_takeDown_140 : decode cX5_takeDown 140 = .ok (.goto (-99), 3) := by decide +kernel
theorem dX5_takeDown_143 : decode cX5_takeDown 143 = .ok (.iload_n 2, 1) := by decide +kernel
theorem dX5_takeDown_144 : decode cX5_takeDown 144 = .ok (.ireturn, 1) := by decide +kernel
theorem dX5_mend_0 : decode cX5_mend 0 = .ok (.aload_n 0, 1) := by decide +kernel
theorem dX5_mend_1 : decode cX5_mend 1 = .ok (.getfield 9, 3) := by decide +kernel
theorem dX5_mend_4 : decode cX5_mend 4 = .ok (.iload_n 1, 1) := by decide +kernel
theorem dX5_mend_5 : decode cX5_mend 5 = .ok (.invokevirtual 174, 3) := by decide +kernel
theorem dX5_mend_8 : decode cX5_mend 8 = .ok (.ifCond .eq 37, 3) := by decide +kernel
theorem dX5_mend_11 : decode cX5_mend 11 = .ok (.aload_n 0, 1) := by decide +kernel
theorem dX5_mend_12 : decode cX5_mend 12 = .ok (.getfield 9, 3) := by decide +kernel
theorem dX5_mend_15 : decode cX5_mend 15 = .ok (.getfield 53, 3) := by decide +kernel
theorem dX5_mend_18 : decode cX5_mend 18 = .ok (.iload_n 1, 1) := by decide +kernel
theorem dX5_mend_19 : decode cX5_mend 19 = .ok (.aaload, 1) := by decide +kernel
theorem dX5_mend_20 : decode cX5_mend 20 = .ok (.getfield 79, 3) := by decide +kernel
theorem dX5_mend_23 : decode cX5_mend 23 = .ok (.ifCond .eq 22, 3) := by decide +kernel
theorem dX5_mend_26 : decode cX5_mend 26 = .ok (.aload_n 0, 1) := by decide +kernel
theorem dX5_mend_27 : decode cX5_mend 27 = .ok (.getfield 9, 3) := by decide +kernel
theorem dX5_mend_30 : decode cX5_mend 30 = .ok (.aload_n 0, 1) := by decide +kernel
theorem dX5_mend_31 : decode cX5_mend 31 = .ok (.getfield 9, 3) := by decide +kernel
theorem dX5_mend_34 : decode cX5_mend 34 = .ok (.getfield 53, 3) := by decide +kernel
theorem dX5_mend_37 : decode cX5_mend 37 = .ok (.iload_n 1, 1) := by decide +kernel
theorem dX5_mend_38 : decode cX5_mend 38 = .ok (.aaload, 1) := by decide +kernel
theorem dX5_mend_39 : decode cX5_mend 39 = .ok (.invokevirtual 183, 3) := by decide +kernel
theorem dX5_mend_42 : decode cX5_mend 42 = .ok (.ifCond .ne 5, 3) := by decide +kernel
theorem dX5_mend_45 : decode cX5_mend 45 = .ok (.iconst (-1), 1) := by decide +kernel
theorem dX5_mend_46 : decode cX5_mend 46 = .ok (.ireturn, 1) := by decide +kernel
theorem dX5_mend_47 : decode cX5_mend 47 = .ok (.aload_n 0, 1) := by decide +kernel
theorem dX5_mend_48 : decode cX5_mend 48 = .ok (.getfield 9, 3) := by decide +kernel
theorem dX5_mend_51 : decode cX5_mend 51 = .ok (.getfield 53, 3) := by decide +kernel
theorem dX5_mend_54 : decode cX5_mend 54 = .ok (.iload_n 1, 1) := by decide +kernel
theorem dX5_mend_55 : decode cX5_mend 55 = .ok (.aaload, 1) := by decide +kernel
theorem dX5_mend_56 : decode cX5_mend 56 = .ok (.astore_n 2, 1) := by decide +kernel
theorem dX5_mend_57 : decode cX5_mend 57 = .ok (.aload_n 2, 1) := by decide +kernel
theorem dX5_mend_58 : decode cX5_mend 58 = .ok (.iconst 0, 1) := by decide +kernel
theorem dX5_mend_59 : decode cX5_mend 59 = .ok (.putfield 79, 3) := by decide +kernel
theorem dX5_mend_62 : decode cX5_mend 62 = .ok (.aload_n 2, 1) := by decide +kernel
theorem dX5_mend_63 : decode cX5_mend 63 = .ok (.getfield 87, 3) := by decide +kernel
theorem dX5_mend_66 : decode cX5_mend 66 = .ok (.iconst 4, 1) := by decide +kernel
theorem dX5_mend_67 : decode cX5_mend 67 = .ok (.if_icmp .ne 31, 3) := by decide +kernel
theorem dX5_mend_70 : decode cX5_mend 70 = .ok (.aload_n 0, 1) := by decide +kernel
theorem dX5_mend_71 : decode cX5_mend 71 = .ok (.getfield 9, 3) := by decide +kernel
theorem dX5_mend_74 : decode cX5_mend 74 = .ok (.aload_n 2, 1) := by decide +kernel
theorem dX5_mend_75 : decode cX5_mend 75 = .ok (.getfield 133, 3) := by decide +kernel
theorem dX5_mend_78 : decode cX5_mend 78 = .ok (.aload_n 2, 1) := by decide +kernel
theorem dX5_mend_79 : decode cX5_mend 79 = .ok (.getfield 158, 3) := by decide +kernel
theorem dX5_mend_82 : decode cX5_mend 82 = .ok (.aload_n 2, 1) := by decide +kernel
theorem dX5_mend_83 : decode cX5_mend 83 = .ok (.getfield 124, 3) := by decide +kernel
theorem dX5_mend_86 : decode cX5_mend 86 = .ok (.invokevirtual 187, 3) := by decide +kernel
theorem dX5_mend_89 : decode cX5_mend 89 = .ok (.aload_n 0, 1) := by decide +kernel
theorem dX5_mend_90 : decode cX5_mend 90 = .ok (.aload_n 2, 1) := by decide +kernel
theorem dX5_mend_91 : decode cX5_mend 91 = .ok (.iconst 5, 1) := by decide +kernel
theorem dX5_mend_92 : decode cX5_mend 92 = .ok (.invokevirtual 130, 3) := by decide +kernel
theorem dX5_mend_95 : decode cX5_mend 95 = .ok (.goto 8, 3) := by decide +kernel
theorem dX5_mend_98 : decode cX5_mend 98 = .ok (.aload_n 0, 1) := by decide +kernel
theorem dX5_mend_99 : decode cX5_mend 99 = .ok (.aload_n 2, 1) := by decide +kernel
theorem dX5_mend_100 : decode cX5_mend 100 = .ok (.invokevirtual 190, 3) := by decide +kernel
theorem dX5_mend_103 : decode cX5_mend 103 = .ok (.aload_n 2, 1) := by decide +kernel
theorem dX5_mend_104 : decode cX5_mend 104 = .ok (.getfield 87, 3) := by decide +kernel
theorem dX5_mend_107 : decode cX5_mend 107 = .ok (.ireturn, 1) := by decide +kernel
theorem dX5_giveUp_0 : decode cX5_giveUp 0 = .ok (.aload_n 0, 1) := by decide +kernel
theorem dX5_giveUp_1 : decode cX5_giveUp 1 = .ok (.getfield 9, 3) := by decide +kernel
theorem dX5_giveUp_4 : decode cX5_giveUp 4 = .ok (.iload_n 1, 1) := by decide +kernel
theorem dX5_giveUp_5 : decode cX5_giveUp 5 = .ok (.invokevirtual 72, 3) := by decide +kernel
theorem dX5_giveUp_8 : decode cX5_giveUp 8 = .ok (.ifCond .eq 19, 3) := by decide +kernel
theorem dX5_giveUp_11 : decode cX5_giveUp 11 = .ok (.aload_n 0, 1) := by decide +kernel
theorem dX5_giveUp_12 : decode cX5_giveUp 12 = .ok (.getfield 9, 3) := by decide +kernel
theorem dX5_giveUp_15 : decode cX5_giveUp 15 = .ok (.getfield 53, 3) := by decide +kernel
theorem dX5_giveUp_18 : decode cX5_giveUp 18 = .ok (.iload_n 1, 1) := by decide +kernel
theorem dX5_giveUp_19 : decode cX5_giveUp 19 = .ok (.aaload, 1) := by decide +kernel
theorem dX5_giveUp_20 : decode cX5_giveUp 20 = .ok (.getfield 87, 3) := by decide +kernel
theorem dX5_giveUp_23 : decode cX5_giveUp 23 = .ok (.iconst 4, 1) := by decide +kernel
theorem dX5_giveUp_24 : decode cX5_giveUp 24 = .ok (.if_icmp .ne 5, 3) := by decide +kernel
theorem dX5_giveUp_27 : decode cX5_giveUp 27 = .ok (.iconst 0, 1) := by decide +kernel
theorem dX5_giveUp_28 : decode cX5_giveUp 28 = .ok (.ireturn, 1) := by decide +kernel
theorem dX5_giveUp_29 : decode cX5_giveUp 29 = .ok (.aload_n 0, 1) := by decide +kernel
theorem dX5_giveUp_30 : decode cX5_giveUp 30 = .ok (.aload_n 0, 1) := by decide +kernel
theorem dX5_giveUp_31 : decode cX5_giveUp 31 = .ok (.getfield 9, 3) := by decide +kernel
theorem dX5_giveUp_34 : decode cX5_giveUp 34 = .ok (.getfield 53, 3) := by decide +kernel
theorem dX5_giveUp_37 : decode cX5_giveUp 37 = .ok (.iload_n 1, 1) := by decide +kernel
theorem dX5_giveUp_38 : decode cX5_giveUp 38 = .ok (.aaload, 1) := by decide +kernel
theorem dX5_giveUp_39 : decode cX5_giveUp 39 = .ok (.invokevirtual 190, 3) := by decide +kernel
theorem dX5_giveUp_42 : decode cX5_giveUp 42 = .ok (.iconst 1, 1) := by decide +kernel
theorem dX5_giveUp_43 : decode cX5_giveUp 43 = .ok (.ireturn, 1) := by decide +kernel
theorem dX5_turnBack_0 : decode cX5_turnBack 0 = .ok (.aload_n 0, 1) := by decide +kernel
theorem dX5_turnBack_1 : decode cX5_turnBack 1 = .ok (.getfield 9, 3) := by decide +kernel
theorem dX5_turnBack_4 : decode cX5_turnBack 4 = .ok (.aload_n 1, 1) := by decide +kernel
theorem dX5_turnBack_5 : decode cX5_turnBack 5 = .ok (.getfield 140, 3) := by decide +kernel
theorem dX5_turnBack_8 : decode cX5_turnBack 8 = .ok (.aload_n 1, 1) := by decide +kernel
theorem dX5_turnBack_9 : decode cX5_turnBack 9 = .ok (.getfield 158, 3) := by decide +kernel
theorem dX5_turnBack_12 : decode cX5_turnBack 12 = .ok (.aload_n 1, 1) := by decide +kernel
theorem dX5_turnBack_13 : decode cX5_turnBack 13 = .ok (.getfield 124, 3) := by decide +kernel
theorem dX5_turnBack_16 : decode cX5_turnBack 16 = .ok (.invokevirtual 187, 3) := by decide +kernel
theorem dX5_turnBack_19 : decode cX5_turnBack 19 = .ok (.aload_n 0, 1) := by decide +kernel
theorem dX5_turnBack_20 : decode cX5_turnBack 20 = .ok (.aload_n 1, 1) := by decide +kernel
theorem dX5_turnBack_21 : decode cX5_turnBack 21 = .ok (.bipush 6, 2) := by decide +kernel
theorem dX5_turnBack_23 : decode cX5_turnBack 23 = .ok (.invokevirtual 130, 3) := by decide +kernel
theorem dX5_turnBack_26 : decode cX5_turnBack 26 = .ok (.return_, 1) := by decide +kernel
theorem dX5_stepsLeft_0 : decode cX5_stepsLeft 0 = .ok (.iconst 1, 1) := by decide +kernel
theorem dX5_stepsLeft_1 : decode cX5_stepsLeft 1 = .ok (.aload_n 0, 1) := by decide +kernel
theorem dX5_stepsLeft_2 : decode cX5_stepsLeft 2 = .ok (.getfield 9, 3) := by decide +kernel
theorem dX5_stepsLeft_5 : decode cX5_stepsLeft 5 = .ok (.getfield 96, 3) := by decide +kernel
theorem dX5_stepsLeft_8 : decode cX5_stepsLeft 8 = .ok (.invokestatic 193, 3) := by decide +kernel
theorem dX5_stepsLeft_11 : decode cX5_stepsLeft 11 = .ok (.istore_n 2, 1) := by decide +kernel
theorem dX5_stepsLeft_12 : decode cX5_stepsLeft 12 = .ok (.aload_n 0, 1) := by decide +kernel
theorem dX5_stepsLeft_13 : decode cX5_stepsLeft 13 = .ok (.getfield 9, 3) := by decide +kernel
theorem dX5_stepsLeft_16 : decode cX5_stepsLeft 16 = .ok (.aload_n 1, 1) := by decide +kernel
theorem dX5_stepsLeft_17 : decode cX5_stepsLeft 17 = .ok (.getfield 133, 3) := by decide +kernel
theorem dX5_stepsLeft_20 : decode cX5_stepsLeft 20 = .ok (.aload_n 1, 1) := by decide +kernel
theorem dX5_stepsLeft_21 : decode cX5_stepsLeft 21 = .ok (.getfield 87, 3) := by decide +kernel
theorem dX5_stepsLeft_24 : decode cX5_stepsLeft 24 = .ok (.iconst 4, 1) := by decide +kernel
theorem dX5_stepsLeft_25 : decode cX5_stepsLeft 25 = .ok (.if_icmp .ne 10, 3) := by decide +kernel
theorem dX5_stepsLeft_28 : decode cX5_stepsLeft 28 = .ok (.aload_n 1, 1) := by decide +kernel
theorem dX5_stepsLeft_29 : decode cX5_stepsLeft 29 = .ok (.getfield 127, 3) := by decide +kernel
theorem dX5_stepsLeft_32 : decode cX5_stepsLeft 32 = .ok (.goto 7, 3) := by decide +kernel
theorem dX5_stepsLeft_35 : decode cX5_stepsLeft 35 = .ok (.aload_n 1, 1) := by decide +kernel
theorem dX5_stepsLeft_36 : decode cX5_stepsLeft 36 = .ok (.getfield 158, 3) := by decide +kernel
theorem dX5_stepsLeft_39 : decode cX5_stepsLeft 39 = .ok (.aload_n 1, 1) := by decide +kernel
theorem dX5_stepsLeft_40 : decode cX5_stepsLeft 40 = .ok (.getfield 124, 3) := by decide +kernel
theorem dX5_stepsLeft_43 : decode cX5_stepsLeft 43 = .ok (.invokevirtual 196, 3) := by decide +kernel
theorem dX5_stepsLeft_46 : decode cX5_stepsLeft 46 = .ok (.iload_n 2, 1) := by decide +kernel
theorem dX5_stepsLeft_47 : decode cX5_stepsLeft 47 = .ok (.idiv, 1) := by decide +kernel
theorem dX5_stepsLeft_48 : decode cX5_stepsLeft 48 = .ok (.iconst 1, 1) := by decide +kernel
theorem dX5_stepsLeft_49 : decode cX5_stepsLeft 49 = .ok (.iadd, 1) := by decide +kernel
theorem dX5_stepsLeft_50 : decode cX5_stepsLeft 50 = .ok (.istore_n 3, 1) := by decide +kernel
theorem dX5_stepsLeft_51 : decode cX5_stepsLeft 51 = .ok (.aload_n 1, 1) := by decide +kernel
theorem dX5_stepsLeft_52 : decode cX5_stepsLeft 52 = .ok (.getfield 87, 3) := by decide +kernel
theorem dX5_stepsLeft_55 : decode cX5_stepsLeft 55 = .ok (.iconst 4, 1) := by decide +kernel
theorem dX5_stepsLeft_56 : decode cX5_stepsLeft 56 = .ok (.if_icmp .ne 5, 3) := by decide +kernel
theorem dX5_stepsLeft_59 : decode cX5_stepsLeft 59 = .ok (.iload_n 3, 1) := by decide +kernel
theorem dX5_stepsLeft_60 : decode cX5_stepsLeft 60 = .ok (.ireturn, 1) := by decide +kernel
theorem dX5_stepsLeft_61 : decode cX5_stepsLeft 61 = .ok (.aload_n 1, 1) := by decide +kernel
theorem dX5_stepsLeft_62 : decode cX5_stepsLeft 62 = .ok (.getfield 87, 3) := by decide +kernel
theorem dX5_stepsLeft_65 : decode cX5_stepsLeft 65 = .ok (.iconst 3, 1) := by decide +kernel
theorem dX5_stepsLeft_66 : decode cX5_stepsLeft 66 = .ok (.if_icmp .ne 7, 3) := by decide +kernel
theorem dX5_stepsLeft_69 : decode cX5_stepsLeft 69 = .ok (.iconst 1, 1) := by decide +kernel
theorem dX5_stepsLeft_70 : decode cX5_stepsLeft 70 = .ok (.iload_n 3, 1) := by decide +kernel
theorem dX5_stepsLeft_71 : decode cX5_stepsLeft 71 = .ok (.iadd, 1) := by decide +kernel
theorem dX5_stepsLeft_72 : decode cX5_stepsLeft 72 = .ok (.ireturn, 1) := by decide +kernel
theorem dX5_stepsLeft_73 : decode cX5_stepsLeft 73 = .ok (.iconst 1, 1) := by decide +kernel
theorem dX5_stepsLeft_74 : decode cX5_stepsLeft 74 = .ok (.aload_n 1, 1) := by decide +kernel
theorem dX5_stepsLeft_75 : decode cX5_stepsLeft 75 = .ok (.getfield 121, 3) := by decide +kernel
theorem dX5_stepsLeft_78 : decode cX5_stepsLeft 78 = .ok (.iload_n 2, 1) := by decide +kernel
theorem dX5_stepsLeft_79 : decode cX5_stepsLeft 79 = .ok (.iadd, 1) := by decide +kernel
theorem dX5_stepsLeft_80 : decode cX5_stepsLeft 80 = .ok (.iconst 1, 1) := by decide +kernel
theorem dX5_stepsLeft_81 : decode cX5_stepsLeft 81 = .ok (.isub, 1) := by decide +kernel
theorem dX5_stepsLeft_82 : decode cX5_stepsLeft 82 = .ok (.iload_n 2, 1) := by decide +kernel
theorem dX5_stepsLeft_83 : decode cX5_stepsLeft 83 = .ok (.idiv, 1) := by decide +kernel
theorem dX5_stepsLeft_84 : decode cX5_stepsLeft 84 = .ok (.invokestatic 193, 3) := by decide +kernel
theorem dX5_stepsLeft_87 : decode cX5_stepsLeft 87 = .ok (.istore 4, 2) := by decide +kernel
theorem dX5_stepsLeft_89 : decode cX5_stepsLeft 89 = .ok (.aload_n 1, 1) := by decide +kernel
theorem dX5_stepsLeft_90 : decode cX5_stepsLeft 90 = .ok (.getfield 87, 3) := by decide +kernel
theorem dX5_stepsLeft_93 : decode cX5_stepsLeft 93 = .ok (.iconst 2, 1) := by decide +kernel
theorem dX5_stepsLeft_94 : decode cX5_stepsLeft 94 = .ok (.if_icmp .ne 10, 3) := by decide +kernel
theorem dX5_stepsLeft_97 : decode cX5_stepsLeft 97 = .ok (.iload 4, 2) := by decide +kernel
theorem dX5_stepsLeft_99 : decode cX5_stepsLeft 99 = .ok (.iconst 1, 1) := by decide +kernel
theorem dX5_stepsLeft_100 : decode cX5_stepsLeft 100 = .ok (.iadd, 1) := by decide +kernel
theorem dX5_stepsLeft_101 : decode cX5_stepsLeft 101 = .ok (.iload_n 3, 1) := by decide +kernel
theorem dX5_stepsLeft_102 : decode cX5_stepsLeft 102 = .ok (.iadd, 1) := by decide +kernel
theorem dX5_stepsLeft_103 : decode cX5_stepsLeft 103 = .ok (.ireturn, 1) := by decide +kernel
theorem dX5_stepsLeft_104 : decode cX5_stepsLeft 104 = .ok (.aload_n 0, 1) := by decide +kernel
theorem dX5_stepsLeft_105 : decode cX5_stepsLeft 105 = .ok (.getfield 9, 3) := by decide +kernel
theorem dX5_stepsLeft_108 : decode cX5_stepsLeft 108 = .ok (.aload_n 1, 1) := by decide +kernel
theorem dX5_stepsLeft_109 : decode cX5_stepsLeft 109 = .ok (.getfield 133, 3) := by decide +kernel
theorem dX5_stepsLeft_112 : decode cX5_stepsLeft 112 = .ok (.aload_n 1, 1) := by decide +kernel
theorem dX5_stepsLeft_113 : decode cX5_stepsLeft 113 = .ok (.getfield 127, 3) := by decide +kernel
theorem dX5_stepsLeft_116 : decode cX5_stepsLeft 116 = .ok (.aload_n 1, 1) := by decide +kernel
theorem dX5_stepsLeft_117 : decode cX5_stepsLeft 117 = .ok (.getfield 124, 3) := by decide +kernel
theorem dX5_stepsLeft_120 : decode cX5_stepsLeft 120 = .ok (.invokevirtual 196, 3) := by decide +kernel
theorem dX5_stepsLeft_123 : decode cX5_stepsLeft 123 = .ok (.iload_n 2, 1) := by decide +kernel
theorem dX5_stepsLeft_124 : decode cX5_stepsLeft 124 = .ok (.idiv, 1) := by decide +kernel
theorem dX5_stepsLeft_125 : decode cX5_stepsLeft 125 = .ok (.iconst 1, 1) := by decide +kernel
theorem dX5_stepsLeft_126 : decode cX5_stepsLeft 126 = .ok (.iadd, 1) := by decide +kernel
theorem dX5_stepsLeft_127 : decode cX5_stepsLeft 127 = .ok (.iload 4, 2) := by decide +kernel
theorem dX5_stepsLeft_129 : decode cX5_stepsLeft 129 = .ok (.iadd, 1) := by decide +kernel
theorem dX5_stepsLeft_130 : decode cX5_stepsLeft 130 = .ok (.iconst 1, 1) := by decide +kernel
theorem dX5_stepsLeft_131 : decode cX5_stepsLeft 131 = .ok (.iadd, 1) := by decide +kernel
theorem dX5_stepsLeft_132 : decode cX5_stepsLeft 132 = .ok (.iload_n 3, 1) := by decide +kernel
theorem dX5_stepsLeft_133 : decode cX5_stepsLeft 133 = .ok (.iadd, 1) := by decide +kernel
theorem dX5_stepsLeft_134 : decode cX5_stepsLeft 134 = .ok (.ireturn, 1) := by decide +kernel
theorem dX6_init_0 : decode cX6_init 0 = .ok (.aload_n 0, 1) := by decide +kernel
theorem dX6_init_1 : decode cX6_init 1 = .ok (.invokespecial 3, 3) := by decide +kernel
theorem dX6_init_4 : decode cX6_init 4 = .ok (.aload_n 0, 1) := by decide +kernel
theorem dX6_init_5 : decode cX6_init 5 = .ok (.sipush 1001, 3) := by decide +kernel
theorem dX6_init_8 : decode cX6_init 8 = .ok (.newarray .int, 2) := by decide +kernel
theorem dX6_init_10 : decode cX6_init 10 = .ok (.putfield 9, 3) := by decide +kernel
theorem dX6_init_13 : decode cX6_init 13 = .ok (.aload_n 0, 1) := by decide +kernel
theorem dX6_init_14 : decode cX6_init 14 = .ok (.bipush 33, 2) := by decide +kernel
theorem dX6_init_16 : decode cX6_init 16 = .ok (.newarray .int, 2) := by decide +kernel
theorem dX6_init_18 : decode cX6_init 18 = .ok (.putfield 15, 3) := by decide +kernel
theorem dX6_init_21 : decode cX6_init 21 = .ok (.aload_n 0, 1) := by decide +kernel
theorem dX6_init_22 : decode cX6_init 22 = .ok (.bipush 32, 2) := by decide +kernel
theorem dX6_init_24 : decode cX6_init 24 = .ok (.newarray .int, 2) := by decide +kernel
theorem dX6_init_26 : decode cX6_init 26 = .ok (.putfield 18, 3) := by decide +kernel
theorem dX6_init_29 : decode cX6_init 29 = .ok (.aload_n 0, 1) := by decide +kernel
theorem dX6_init_30 : decode cX6_init 30 = .ok (.bipush 32, 2) := by decide +kernel
theorem dX6_init_32 : decode cX6_init 32 = .ok (.newarray .boolean, 2) := by decide +kernel
theorem dX6_init_34 : decode cX6_init 34 = .ok (.putfield 21, 3) := by decide +kernel
theorem dX6_init_37 : decode cX6_init 37 = .ok (.aload_n 0, 1) := by decide +kernel
theorem dX6_init_38 : decode cX6_init 38 = .ok (.bipush 6, 2) := by decide +kernel
theorem dX6_init_40 : decode cX6_init 40 = .ok (.newarray .int, 2) := by decide +kernel
theorem dX6_init_42 : decode cX6_init 42 = .ok (.putfield 25, 3) := by decide +kernel
theorem dX6_init_45 : decode cX6_init 45 = .ok (.return_, 1) := by decide +kernel
theorem dX6_take_0 : decode cX6_take 0 = .ok (.iconst 0, 1) := by decide +kernel
theorem dX6_take_1 : decode cX6_take 1 = .ok (.istore_n 2, 1) := by decide +kernel
theorem dX6_take_2 : decode cX6_take 2 = .ok (.iload_n 2, 1) := by decide +kernel
theorem dX6_take_3 : decode cX6_take 3 = .ok (.sipush 1000, 3) := by decide +kernel
theorem dX6_take_6 : decode cX6_take 6 = .ok (.if_icmp .ge 30, 3) := by decide +kernel
theorem dX6_take_9 : decode cX6_take 9 = .ok (.aload_n 0, 1) := by decide +kernel
theorem dX6_take_10 : decode cX6_take 10 = .ok (.getfield 9, 3) := by decide +kernel
theorem dX6_take_13 : decode cX6_take 13 = .ok (.iload_n 2, 1) := by decide +kernel
theorem dX6_take_14 : decode cX6_take 14 = .ok (.iconst 1, 1) := by decide +kernel
theorem dX6_take_15 : decode cX6_take 15 = .ok (.iadd, 1) := by decide +kernel
theorem dX6_take_16 : decode cX6_take 16 = .ok (.aload_n 0, 1) := by decide +kernel
theorem dX6_take_17 : decode cX6_take 17 = .ok (.getfield 9, 3) := by decide +kernel
theorem dX6_take_20 : decode cX6_take 20 = .ok (.iload_n 2, 1) := by decide +kernel
theorem dX6_take_21 : decode cX6_take 21 = .ok (.iaload, 1) := by decide +kernel
theorem dX6_take_22 : decode cX6_take 22 = .ok (.aload_n 1, 1) := by decide +kernel
theorem dX6_take_23 : decode cX6_take 23 = .ok (.getfield 28, 3) := by decide +kernel
theorem dX6_take_26 : decode cX6_take 26 = .ok (.iload_n 2, 1) := by decide +kernel
theorem dX6_take_27 : decode cX6_take 27 = .ok (.iaload, 1) := by decide +kernel
theorem dX6_take_28 : decode cX6_take 28 = .ok (.iadd, 1) := by decide +kernel
theorem dX6_take_29 : decode cX6_take 29 = .ok (.iastore, 1) := by decide +kernel
theorem dX6_take_30 : decode cX6_take 30 = .ok (.iinc 2 1, 3) := by decide +kernel
theorem dX6_take_33 : decode cX6_take 33 = .ok (.goto (-31), 3) := by decide +kernel
theorem dX6_take_36 : decode cX6_take 36 = .ok (.iconst 0, 1) := by decide +kernel
theorem dX6_take_37 : decode cX6_take 37 = .ok (.istore_n 2, 1) := by decide +kernel
theorem dX6_take_38 : decode cX6_take 38 = .ok (.iload_n 2, 1) := by decide +kernel
theorem dX6_take_39 : decode cX6_take 39 = .ok (.bipush 6, 2) := by decide +kernel
theorem dX6_take_41 : decode cX6_take 41 = .ok (.if_icmp .ge 16, 3) := by decide +kernel
theorem dX6_take_44 : decode cX6_take 44 = .ok (.aload_n 0, 1) := by decide +kernel
theorem dX6_take_45 : decode cX6_take 45 = .ok (.getfield 25, 3) := by decide +kernel
theorem dX6_take_48 : decode cX6_take 48 = .ok (.iload_n 2, 1) := by decide +kernel
theorem dX6_take_49 : decode cX6_take 49 = .ok (.iconst 0, 1) := by decide +kernel
theorem dX6_take_50 : decode cX6_take 50 = .ok (.iastore, 1) := by decide +kernel
theorem dX6_take_51 : decode cX6_take 51 = .ok (.iinc 2 1, 3) := by decide +kernel
theorem dX6_take_54 : decode cX6_take 54 = .ok (.goto (-16), 3) := by decide +kernel
theorem dX6_take_57 : decode cX6_take 57 = .ok (.aload_n 0, 1) := by decide +kernel
theorem dX6_take_58 : decode cX6_take 58 = .ok (.aload_n 1, 1) := by decide +kernel
theorem dX6_take_59 : decode cX6_take 59 = .ok (.getfield 33, 3) := by decide +kernel
theorem dX6_take_62 : decode cX6_take 62 = .ok (.getfield 37, 3) := by decide +kernel
theorem dX6_take_65 : decode cX6_take 65 = .ok (.putfield 43, 3) := by decide +kernel
theorem dX6_take_68 : decode cX6_take 68 = .ok (.aload_n 0, 1) := by decide +kernel
theorem dX6_take_69 : decode cX6_take 69 = .ok (.aload_n 1, 1) := by decide +kernel
theorem dX6_take_70 : decode cX6_take 70 = .ok (.getfield 44, 3) := by decide +kernel
theorem dX6_take_73 : decode cX6_take 73 = .ok (.putfield 47, 3) := by decide +kernel
theorem dX6_take_76 : decode cX6_take 76 = .ok (.aload_n 1, 1) := by decide +kernel
theorem dX6_take_77 : decode cX6_take 77 = .ok (.getfield 33, 3) := by decide +kernel
theorem dX6_take_80 : decode cX6_take 80 = .ok (.getfield 48, 3) := by decide +kernel
theorem dX6_take_83 : decode cX6_take 83 = .ok (.iconst 0, 1) := by decide +kernel
theorem dX6_take_84 : decode cX6_take 84 = .ok (.aload_n 0, 1) := by decide +kernel
theorem dX6_take_85 : decode cX6_take 85 = .ok (.getfield 15, 3) := by decide +kernel
theorem dX6_take_88 : decode cX6_take 88 = .ok (.iconst 0, 1) := by decide +kernel
theorem dX6_take_89 : decode cX6_take 89 = .ok (.aload_n 0, 1) := by decide +kernel
theorem dX6_take_90 : decode cX6_take 90 = .ok (.getfield 43, 3) := by decide +kernel
theorem dX6_take_93 : decode cX6_take 93 = .ok (.invokestatic 49, 3) := by decide +kernel
theorem dX6_take_96 : decode cX6_take 96 = .ok (.aload_n 0, 1) := by decide +kernel
theorem dX6_take_97 : decode cX6_take 97 = .ok (.getfield 15, 3) := by decide +kernel
theorem dX6_take_100 : decode cX6_take 100 = .ok (.aload_n 0, 1) := by decide +kernel
theorem dX6_take_101 : decode cX6_take 101 = .ok (.getfield 43, 3) := by decide +kernel
theorem dX6_take_104 : decode cX6_take 104 = .ok (.sipush 1000, 3) := by decide +kernel
theorem dX6_take_107 : decode cX6_take 107 = .ok (.iastore, 1) := by decide +kernel
theorem dX6_take_108 : decode cX6_take 108 = .ok (.iconst 0, 1) := by decide +kernel
theorem dX6_take_109 : decode cX6_take 109 = .ok (.istore_n 2, 1) := by decide +kernel
theorem dX6_take_110 : decode cX6_take 110 = .ok (.iload_n 2, 1) := by decide +kernel
theorem dX6_take_111 : decode cX6_take 111 = .ok (.aload_n 0, 1) := by decide +kernel
theorem dX6_take_112 : decode cX6_take 112 = .ok (.getfield 43, 3) := by decide +kernel
theorem dX6_take_115 : decode cX6_take 115 = .ok (.if_icmp .ge 68, 3) := by decide +kernel
theorem dX6_take_118 : decode cX6_take 118 = .ok (.aload_n 0, 1) := by decide +kernel
theorem dX6_take_119 : decode cX6_take 119 = .ok (.getfield 18, 3) := by decide +kernel
theorem dX6_take_122 : decode cX6_take 122 = .ok (.iload_n 2, 1) := by decide +kernel
theorem dX6_take_123 : decode cX6_take 123 = .ok (.aload_n 1, 1) := by decide +kernel
theorem dX6_take_124 : decode cX6_take 124 = .ok (.getfield 33, 3) := by decide +kernel
theorem dX6_take_127 : decode cX6_take 127 = .ok (.getfield 55, 3) := by decide +kernel
theorem dX6_take_130 : decode cX6_take 130 = .ok (.iload_n 2, 1) := by decide +kernel
theorem dX6_take_131 : decode cX6_take 131 = .ok (.iaload, 1) := by decide +kernel
theorem dX6_take_132 : decode cX6_take 132 = .ok (.iastore, 1) := by decide +kernel
theorem dX6_take_133 : decode cX6_take 133 = .ok (.aload_n 0, 1) := by decide +kernel
theorem dX6_take_134 : decode cX6_take 134 = .ok (.getfield 21, 3) := by decide +kernel
theorem dX6_take_137 : decode cX6_take 137 = .ok (.iload_n 2, 1) := by decide +kernel
theorem dX6_take_138 : decode cX6_take 138 = .ok (.aload_n 1, 1) := by decide +kernel
theorem dX6_take_139 : decode cX6_take 139 = .ok (.aload_n 0, 1) := by decide +kernel
theorem dX6_take_140 : decode cX6_take 140 = .ok (.getfield 15, 3) := by decide +kernel
theorem dX6_take_143 : decode cX6_take 143 = .ok (.iload_n 2, 1) := by decide +kernel
theorem dX6_take_144 : decode cX6_take 144 = .ok (.iaload, 1) := by decide +kernel
theorem dX6_take_145 : decode cX6_take 145 = .ok (.invokevirtual 56, 3) := by decide +kernel
theorem dX6_take_148 : decode cX6_take 148 = .ok (.iconst (-1), 1) := by decide +kernel
theorem dX6_take_149 : decode cX6_take 149 = .ok (.if_icmp .eq 7, 3) := by decide +kernel
theorem dX6_take_152 : decode cX6_take 152 = .ok (.iconst 1, 1) := by decide +kernel
theorem dX6_take_153 : decode cX6_take 153 = .ok (.goto 4, 3) := by decide +kernel
theorem dX6_take_156 : decode cX6_take 156 = .ok (.iconst 0, 1) := by decide +kernel
theorem dX6_take_157 : decode cX6_take 157 = .ok (.bastore, 1) := by decide +kernel
theorem dX6_take_158 : decode cX6_take 158 = .ok (.aload_n 0, 1) := by decide +kernel
theorem dX6_take_159 : decode cX6_take 159 = .ok (.getfield 25, 3) := by decide +kernel
theorem dX6_take_162 : decode cX6_take 162 = .ok (.aload_n 0, 1) := by decide +kernel
theorem dX6_take_163 : decode cX6_take 163 = .ok (.getfield 18, 3) := by decide +kernel
theorem dX6_take_166 : decode cX6_take 166 = .ok (.iload_n 2, 1) := by decide +kernel
theorem dX6_take_167 : decode cX6_take 167 = .ok (.iaload, 1) := by decide +kernel
theorem dX6_take_168 : decode cX6_take 168 = .ok (.dup2, 1) := by decide +kernel
theorem dX6_take_169 : decode cX6_take 169 = .ok (.iaload, 1) := by decide +kernel
theorem dX6_take_170 : decode cX6_take 170 = .ok (.aload_n 0, 1) := by decide +kernel
theorem dX6_take_171 : decode cX6_take 171 = .ok (.iload_n 2, 1) := by decide +kernel
theorem dX6_take_172 : decode cX6_take 172 = .ok (.invokevirtual 60, 3) := by decide +kernel
theorem dX6_take_175 : decode cX6_take 175 = .ok (.iadd, 1) := by decide +kernel
theorem dX6_take_176 : decode cX6_take 176 = .ok (.iastore, 1) := by decide +kernel
theorem dX6_take_177 : decode cX6_take 177 = .ok (.iinc 2 1, 3) := by decide +kernel
theorem dX6_take_180 : decode cX6_take 180 = .ok (.goto (-70), 3) := by decide +kernel
theorem dX6_take_183 : decode cX6_take 183 = .ok (.return_, 1) := by decide +kernel
theorem dX6_weightOf_0 : decode cX6_weightOf 0 = .ok (.aload_n 0, 1) := by decide +kernel
theorem dX6_weightOf_1 : decode cX6_weightOf 1 = .ok (.getfield 9, 3) := by decide +kernel
theorem dX6_weightOf_4 : decode cX6_weightOf 4 = .ok (.aload_n 0, 1) := by decide +kernel
theorem dX6_weightOf_5 : decode cX6_weightOf 5 = .ok (.getfield 15, 3) := by decide +kernel
theorem dX6_weightOf_8 : decode cX6_weightOf 8 = .ok (.iload_n 1, 1) := by decide +kernel
theorem dX6_weightOf_9 : decode cX6_weightOf 9 = .ok (.iconst 1, 1) := by decide +kernel
theorem dX6_weightOf_10 : decode cX6_weightOf 10 = .ok (.iadd, 1) := by decide +kernel
theorem dX6_weightOf_11 : decode cX6_weightOf 11 = .ok (.iaload, 1) := by decide +kernel
theorem dX6_weightOf_12 : decode cX6_weightOf 12 = .ok (.iaload, 1) := by decide +kernel
theorem dX6_weightOf_13 : decode cX6_weightOf 13 = .ok (.aload_n 0, 1) := by decide +kernel
theorem dX6_weightOf_14 : decode cX6_weightOf 14 = .ok (.getfield 9, 3) := by decide +kernel
theorem dX6_weightOf_17 : decode cX6_weightOf 17 = .ok (.aload_n 0, 1) := by decide +kernel
theorem dX6_weightOf_18 : decode cX6_weightOf 18 = .ok (.getfield 15, 3) := by decide +kernel
theorem dX6_weightOf_21 : decode cX6_weightOf 21 = .ok (.iload_n 1, 1) := by decide +kernel
theorem dX6_weightOf_22 : decode cX6_weightOf 22 = .ok (.iaload, 1) := by decide +kernel
theorem dX6_weightOf_23 : decode cX6_weightOf 23 = .ok (.iaload, 1) := by decide +kernel
theorem dX6_weightOf_24 : decode cX6_weightOf 24 = .ok (.isub, 1) := by decide +kernel
theorem dX6_weightOf_25 : decode cX6_weightOf 25 = .ok (.ireturn, 1) := by decide +kernel
theorem dX6_middleIn_0 : decode cX6_middleIn 0 = .ok (.aload_n 0, 1) := by decide +kernel
theorem dX6_middleIn_1 : decode cX6_middleIn 1 = .ok (.iload_n 1, 1) := by decide +kernel
theorem dX6_middleIn_2 : decode cX6_middleIn 2 = .ok (.invokevirtual 60, 3) := by decide +kernel
theorem dX6_middleIn_5 : decode cX6_middleIn 5 = .ok (.istore_n 2, 1) := by decide +kernel
theorem dX6_middleIn_6 : decode cX6_middleIn 6 = .ok (.aload_n 0, 1) := by decide +kernel
theorem dX6_middleIn_7 : decode cX6_middleIn 7 = .ok (.getfield 15, 3) := by decide +kernel
theorem dX6_middleIn_10 : decode cX6_middleIn 10 = .ok (.iload_n 1, 1) := by decide +kernel
theorem dX6_middleIn_11 : decode cX6_middleIn 11 = .ok (.iaload, 1) := by decide +kernel
theorem dX6_middleIn_12 : decode cX6_middleIn 12 = .ok (.iconst 1, 1) := by decide +kernel
theorem dX6_middleIn_13 : decode cX6_middleIn 13 = .ok (.iadd, 1) := by decide +kernel
theorem dX6_middleIn_14 : decode cX6_middleIn 14 = .ok (.istore_n 3, 1) := by decide +kernel
theorem dX6_middleIn_15 : decode cX6_middleIn 15 = .ok (.aload_n 0, 1) := by decide +kernel
theorem dX6_middleIn_16 : decode cX6_middleIn 16 = .ok (.getfield 15, 3) := by decide +kernel
theorem dX6_middleIn_19 : decode cX6_middleIn 19 = .ok (.iload_n 1, 1) := by decide +kernel
theorem dX6_middleIn_20 : decode cX6_middleIn 20 = .ok (.iconst 1, 1) := by decide +kernel
theorem dX6_middleIn_21 : decode cX6_middleIn 21 = .ok (.iadd, 1) := by decide +kernel
theorem dX6_middleIn_22 : decode cX6_middleIn 22 = .ok (.iaload, 1) := by decide +kernel
theorem dX6_middleIn_23 : decode cX6_middleIn 23 = .ok (.istore 4, 2) := by decide +kernel
theorem dX6_middleIn_25 : decode cX6_middleIn 25 = .ok (.iload_n 2, 1) := by decide +kernel
theorem dX6_middleIn_26 : decode cX6_middleIn 26 = .ok (.ifCond .ne 5, 3) := by decide +kernel
theorem dX6_middleIn_29 : decode cX6_middleIn 29 = .ok (.iconst (-1), 1) := by decide +kernel
theorem dX6_middleIn_30 : decode cX6_middleIn 30 = .ok (.ireturn, 1) := by decide +kernel
theorem dX6_middleIn_31 : decode cX6_middleIn 31 = .ok (.iconst 0, 1) := by decide +kernel
theorem dX6_middleIn_32 : decode cX6_middleIn 32 = .ok (.istore 5, 2) := by decide +kernel
theorem dX6_middleIn_34 : decode cX6_middleIn 34 = .ok (.iload 5, 2) := by decide +kernel
theorem dX6_middleIn_36 : decode cX6_middleIn 36 = .ok (.sipush 1000, 3) := by decide +kernel
theorem dX6_middleIn_39 : decode cX6_middleIn 39 = .ok (.if_icmp .ge 60, 3) := by decide +kernel
theorem dX6_middleIn_42 : decode cX6_middleIn 42 = .ok (.iload_n 3, 1) := by decide +kernel
theorem dX6_middleIn_43 : decode cX6_middleIn 43 = .ok (.iload 4, 2) := by decide +kernel
theorem dX6_middleIn_45 : decode cX6_middleIn 45 = .ok (.if_icmp .ge 54, 3) := by decide +kernel
theorem dX6_middleIn_48 : decode cX6_middleIn 48 = .ok (.iload_n 3, 1) := by decide +kernel
theorem dX6_middleIn_49 : decode cX6_middleIn 49 = .ok (.iload 4, 2) := by decide +kernel
theorem dX6_middleIn_51 : decode cX6_middleIn 51 = .ok (.iadd, 1) := by decide +kernel
theorem dX6_middleIn_52 : decode cX6_middleIn 52 = .ok (.iconst 2, 1) := by decide +kernel
theorem dX6_middleIn_53 : decode cX6_middleIn 53 = .ok (.idiv, 1) := by decide +kernel
theorem dX6_middleIn_54 : decode cX6_middleIn 54 = .ok (.istore 6, 2) := by decide +kernel
theorem dX6_middleIn_56 : decode cX6_middleIn 56 = .ok (.iconst 2, 1) := by decide +kernel
theorem dX6_middleIn_57 : decode cX6_middleIn 57 = .ok (.aload_n 0, 1) := by decide +kernel
theorem dX6_middleIn_58 : decode cX6_middleIn 58 = .ok (.getfield 9, 3) := by decide +kernel
theorem dX6_middleIn_61 : decode cX6_middleIn 61 = .ok (.iload 6, 2) := by decide +kernel
theorem dX6_middleIn_63 : decode cX6_middleIn 63 = .ok (.iaload, 1) := by decide +kernel
theorem dX6_middleIn_64 : decode cX6_middleIn 64 = .ok (.aload_n 0, 1) := by decide +kernel
theorem dX6_middleIn_65 : decode cX6_middleIn 65 = .ok (.getfield 9, 3) := by decide +kernel
theorem dX6_middleIn_68 : decode cX6_middleIn 68 = .ok (.aload_n 0, 1) := by decide +kernel
theorem dX6_middleIn_69 : decode cX6_middleIn 69 = .ok (.getfield 15, 3) := by decide +kernel
theorem dX6_middleIn_72 : decode cX6_middleIn 72 = .ok (.iload_n 1, 1) := by decide +kernel
theorem dX6_middleIn_73 : decode cX6_middleIn 73 = .ok (.iaload, 1) := by decide +kernel
theorem dX6_middleIn_74 : decode cX6_middleIn 74 = .ok (.iaload, 1) := by decide +kernel
theorem dX6_middleIn_75 : decode cX6_middleIn 75 = .ok (.isub, 1) := by decide +kernel
theorem dX6_middleIn_76 : decode cX6_middleIn 76 = .ok (.imul, 1) := by decide +kernel
theorem dX6_middleIn_77 : decode cX6_middleIn 77 = .ok (.iload_n 2, 1) := by decide +kernel
theorem dX6_middleIn_78 : decode cX6_middleIn 78 = .ok (.if_icmp .lt 10, 3) := by decide +kernel
theorem dX6_middleIn_81 : decode cX6_middleIn 81 = .ok (.iload 6, 2) := by decide +kernel
theorem dX6_middleIn_83 : decode cX6_middleIn 83 = .ok (.istore 4, 2) := by decide +kernel
theorem dX6_middleIn_85 : decode cX6_middleIn 85 = .ok (.goto 8, 3) := by decide +kernel
theorem dX6_middleIn_88 : decode cX6_middleIn 88 = .ok (.iload 6, 2) := by decide +kernel
theorem dX6_middleIn_90 : decode cX6_middleIn 90 = .ok (.iconst 1, 1) := by decide +kernel
theorem dX6_middleIn_91 : decode cX6_middleIn 91 = .ok (.iadd, 1) := by decide +kernel
theorem dX6_middleIn_92 : decode cX6_middleIn 92 = .ok (.istore_n 3, 1) := by decide +kernel
theorem dX6_middleIn_93 : decode cX6_middleIn 93 = .ok (.iinc 5 1, 3) := by decide +kernel
theorem dX6_middleIn_96 : decode cX6_middleIn 96 = .ok (.goto (-62), 3) := by decide +kernel
theorem dX6_middleIn_99 : decode cX6_middleIn 99 = .ok (.iload_n 3, 1) := by decide +kernel
theorem dX6_middleIn_100 : decode cX6_middleIn 100 = .ok (.aload_n 0, 1) := by decide +kernel
theorem dX6_middleIn_101 : decode cX6_middleIn 101 = .ok (.getfield 15, 3) := by decide +kernel
theorem dX6_middleIn_104 : decode cX6_middleIn 104 = .ok (.iload_n 1, 1) := by decide +kernel
theorem dX6_middleIn_105 : decode cX6_middleIn 105 = .ok (.iconst 1, 1) := by decide +kernel
theorem dX6_middleIn_106 : decode cX6_middleIn 106 = .ok (.iadd, 1) := by decide +kernel
theorem dX6_middleIn_107 : decode cX6_middleIn 107 = .ok (.iaload, 1) := by decide +kernel
theorem dX6_middleIn_108 : decode cX6_middleIn 108 = .ok (.if_icmp .ge 7, 3) := by decide +kernel
theorem dX6_middleIn_111 : decode cX6_middleIn 111 = .ok (.iload_n 3, 1) := by decide +kernel
theorem dX6_middleIn_112 : decode cX6_middleIn 112 = .ok (.goto 4, 3) := by decide +kernel
theorem dX6_middleIn_115 : decode cX6_middleIn 115 = .ok (.iconst (-1), 1) := by decide +kernel
theorem dX6_middleIn_116 : decode cX6_middleIn 116 = .ok (.ireturn, 1) := by decide +kernel
theorem dX6_isUp_0 : decode cX6_isUp 0 = .ok (.aload_n 0, 1) := by decide +kernel
theorem dX6_isUp_1 : decode cX6_isUp 1 = .ok (.getfield 47, 3) := by decide +kernel
theorem dX6_isUp_4 : decode cX6_isUp 4 = .ok (.iload_n 1, 1) := by decide +kernel
theorem dX6_isUp_5 : decode cX6_isUp 5 = .ok (.ishr, 1) := by decide +kernel
theorem dX6_isUp_6 : decode cX6_isUp 6 = .ok (.iconst 1, 1) := by decide +kernel
theorem dX6_isUp_7 : decode cX6_isUp 7 = .ok (.iand, 1) := by decide +kernel
theorem dX6_isUp_8 : decode cX6_isUp 8 = .ok (.iconst 1, 1) := by decide +kernel
theorem dX6_isUp_9 : decode cX6_isUp 9 = .ok (.if_icmp .ne 7, 3) := by decide +kernel
theorem dX6_isUp_12 : decode cX6_isUp 12 = .ok (.iconst 1, 1) := by decide +kernel
theorem dX6_isUp_13 : decode cX6_isUp 13 = .ok (.goto 4, 3) := by decide +kernel
theorem dX6_isUp_16 : decode cX6_isUp 16 = .ok (.iconst 0, 1) := by decide +kernel
theorem dX6_isUp_17 : decode cX6_isUp 17 = .ok (.ireturn, 1) := by decide +kernel
theorem dX6_heaviest_0 : decode cX6_heaviest 0 = .ok (.iconst (-1), 1) := by decide +kernel
theorem dX6_heaviest_1 : decode cX6_heaviest 1 = .ok (.istore_n 2, 1) := by decide +kernel
theorem dX6_heaviest_2 : decode cX6_heaviest 2 = .ok (.iconst 0, 1) := by decide +kernel
theorem dX6_heaviest_3 : decode cX6_heaviest 3 = .ok (.istore_n 3, 1) := by decide +kernel
theorem dX6_heaviest_4 : decode cX6_heaviest 4 = .ok (.iload_n 3, 1) := by decide +kernel
theorem dX6_heaviest_5 : decode cX6_heaviest 5 = .ok (.bipush 6, 2) := by decide +kernel
theorem dX6_heaviest_7 : decode cX6_heaviest 7 = .ok (.if_icmp .ge 44, 3) := by decide +kernel
theorem dX6_heaviest_10 : decode cX6_heaviest 10 = .ok (.iload_n 3, 1) := by decide +kernel
theorem dX6_heaviest_11 : decode cX6_heaviest 11 = .ok (.iload_n 1, 1) := by decide +kernel
theorem dX6_heaviest_12 : decode cX6_heaviest 12 = .ok (.if_icmp .eq 33, 3) := by decide +kernel
theorem dX6_heaviest_15 : decode cX6_heaviest 15 = .ok (.aload_n 0, 1) := by decide +kernel
theorem dX6_heaviest_16 : decode cX6_heaviest 16 = .ok (.iload_n 3, 1) := by decide +kernel
theorem dX6_heaviest_17 : decode cX6_heaviest 17 = .ok (.invokevirtual 63, 3) := by decide +kernel
theorem dX6_heaviest_20 : decode cX6_heaviest 20 = .ok (.ifCond .eq 25, 3) := by decide +kernel
theorem dX6_heaviest_23 : decode cX6_heaviest 23 = .ok (.iload_n 2, 1) := by decide +kernel
theorem dX6_heaviest_24 : decode cX6_heaviest 24 = .ok (.iconst (-1), 1) := by decide +kernel
theorem dX6_heaviest_25 : decode cX6_heaviest 25 = .ok (.if_icmp .eq 18, 3) := by decide +kernel
theorem dX6_heaviest_28 : decode cX6_heaviest 28 = .ok (.aload_n 0, 1) := by decide +kernel
theorem dX6_heaviest_29 : decode cX6_heaviest 29 = .ok (.getfield 25, 3) := by decide +kernel
theorem dX6_heaviest_32 : decode cX6_heaviest 32 = .ok (.iload_n 3, 1) := by decide +kernel
theorem dX6_heaviest_33 : decode cX6_heaviest 33 = .ok (.iaload, 1) := by decide +kernel
theorem dX6_heaviest_34 : decode cX6_heaviest 34 = .ok (.aload_n 0, 1) := by decide +kernel
theorem dX6_heaviest_35 : decode cX6_heaviest 35 = .ok (.getfield 25, 3) := by decide +kernel
theorem dX6_heaviest_38 : decode cX6_heaviest 38 = .ok (.iload_n 2, 1) := by decide +kernel
theorem dX6_heaviest_39 : decode cX6_heaviest 39 = .ok (.iaload, 1) := by decide +kernel
theorem dX6_heaviest_40 : decode cX6_heaviest 40 = .ok (.if_icmp .le 5, 3) := by decide +kernel
theorem dX6_heaviest_43 : decode cX6_heaviest 43 = .ok (.iload_n 3, 1) := by decide +kernel
theorem dX6_heaviest_44 : decode cX6_heaviest 44 = .ok (.istore_n 2, 1) := by decide +kernel
theorem dX6_heaviest_45 : decode cX6_heaviest 45 = .ok (.iinc 3 1, 3) := by decide +kernel
theorem dX6_heaviest_48 : decode cX6_heaviest 48 = .ok (.goto (-44), 3) := by decide +kernel
theorem dX6_heaviest_51 : decode cX6_heaviest 51 = .ok (.iload_n 2, 1) := by decide +kernel
theorem dX6_heaviest_52 : decode cX6_heaviest 52 = .ok (.ireturn, 1) := by decide +kernel
theorem dX6_lightest_0 : decode cX6_lightest 0 = .ok (.iconst (-1), 1) := by decide +kernel
theorem dX6_lightest_1 : decode cX6_lightest 1 = .ok (.istore_n 2, 1) := by decide +kernel
theorem dX6_lightest_2 : decode cX6_lightest 2 = .ok (.iconst 0, 1) := by decide +kernel
theorem dX6_lightest_3 : decode cX6_lightest 3 = .ok (.istore_n 3, 1) := by decide +kernel
theorem dX6_lightest_4 : decode cX6_lightest 4 = .ok (.iload_n 3, 1) := by decide +kernel
theorem dX6_lightest_5 : decode cX6_lightest 5 = .ok (.bipush 6, 2) := by decide +kernel
theorem dX6_lightest_7 : decode cX6_lightest 7 = .ok (.if_icmp .ge 44, 3) := by decide +kernel
theorem dX6_lightest_10 : decode cX6_lightest 10 = .ok (.iload_n 3, 1) := by decide +kernel
theorem dX6_lightest_11 : decode cX6_lightest 11 = .ok (.iload_n 1, 1) := by decide +kernel
theorem dX6_lightest_12 : decode cX6_lightest 12 = .ok (.if_icmp .eq 33, 3) := by decide +kernel
theorem dX6_lightest_15 : decode cX6_lightest 15 = .ok (.aload_n 0, 1) := by decide +kernel
theorem dX6_lightest_16 : decode cX6_lightest 16 = .ok (.iload_n 3, 1) := by decide +kernel
theorem dX6_lightest_17 : decode cX6_lightest 17 = .ok (.invokevirtual 63, 3) := by decide +kernel
theorem dX6_lightest_20 : decode cX6_lightest 20 = .ok (.ifCond .eq 25, 3) := by decide +kernel
theorem dX6_lightest_23 : decode cX6_lightest 23 = .ok (.iload_n 2, 1) := by decide +kernel
theorem dX6_lightest_24 : decode cX6_lightest 24 = .ok (.iconst (-1), 1) := by decide +kernel
theorem dX6_lightest_25 : decode cX6_lightest 25 = .ok (.if_icmp .eq 18, 3) := by decide +kernel
theorem dX6_lightest_28 : decode cX6_lightest 28 = .ok (.aload_n 0, 1) := by decide +kernel
theorem dX6_lightest_29 : decode cX6_lightest 29 = .ok (.getfield 25, 3) := by decide +kernel
theorem dX6_lightest_32 : decode cX6_lightest 32 = .ok (.iload_n 3, 1) := by decide +kernel
theorem dX6_lightest_33 : decode cX6_lightest 33 = .ok (.iaload, 1) := by decide +kernel
theorem dX6_lightest_34 : decode cX6_lightest 34 = .ok (.aload_n 0, 1) := by decide +kernel
theorem dX6_lightest_35 : decode cX6_lightest 35 = .ok (.getfield 25, 3) := by decide +kernel
theorem dX6_lightest_38 : decode cX6_lightest 38 = .ok (.iload_n 2, 1) := by decide +kernel
theorem dX6_lightest_39 : decode cX6_lightest 39 = .ok (.iaload, 1) := by decide +kernel
theorem dX6_lightest_40 : decode cX6_lightest 40 = .ok (.if_icmp .ge 5, 3) := by decide +kernel
theorem dX6_lightest_43 : decode cX6_lightest 43 = .ok (.iload_n 3, 1) := by decide +kernel
theorem dX6_lightest_44 : decode cX6_lightest 44 = .ok (.istore_n 2, 1) := by decide +kernel
theorem dX6_lightest_45 : decode cX6_lightest 45 = .ok (.iinc 3 1, 3) := by decide +kernel
theorem dX6_lightest_48 : decode cX6_lightest 48 = .ok (.goto (-44), 3) := by decide +kernel
theorem dX6_lightest_51 : decode cX6_lightest 51 = .ok (.iload_n 2, 1) := by decide +kernel
theorem dX6_lightest_52 : decode cX6_lightest 52 = .ok (.ireturn, 1) := by decide +kernel
theorem dX6_gap_0 : decode cX6_gap 0 = .ok (.aload_n 0, 1) := by decide +kernel
theorem dX6_gap_1 : decode cX6_gap 1 = .ok (.iload_n 1, 1) := by decide +kernel
theorem dX6_gap_2 : decode cX6_gap 2 = .ok (.invokevirtual 67, 3) := by decide +kernel
theorem dX6_gap_5 : decode cX6_gap 5 = .ok (.istore_n 2, 1) := by decide +kernel
theorem dX6_gap_6 : decode cX6_gap 6 = .ok (.aload_n 0, 1) := by decide +kernel
theorem dX6_gap_7 : decode cX6_gap 7 = .ok (.iload_n 1, 1) := by decide +kernel
theorem dX6_gap_8 : decode cX6_gap 8 = .ok (.invokevirtual 70, 3) := by decide +kernel
theorem dX6_gap_11 : decode cX6_gap 11 = .ok (.istore_n 3, 1) := by decide +kernel
theorem dX6_gap_12 : decode cX6_gap 12 = .ok (.iload_n 2, 1) := by decide +kernel
theorem dX6_gap_13 : decode cX6_gap 13 = .ok (.iconst (-1), 1) := by decide +kernel
theorem dX6_gap_14 : decode cX6_gap 14 = .ok (.if_icmp .eq 8, 3) := by decide +kernel
theorem dX6_gap_17 : decode cX6_gap 17 = .ok (.iload_n 3, 1) := by decide +kernel
theorem dX6_gap_18 : decode cX6_gap 18 = .ok (.iconst (-1), 1) := by decide +kernel
theorem dX6_gap_19 : decode cX6_gap 19 = .ok (.if_icmp .ne 7, 3) := by decide +kernel
theorem dX6_gap_22 : decode cX6_gap 22 = .ok (.iconst (-1), 1) := by decide +kernel
theorem dX6_gap_23 : decode cX6_gap 23 = .ok (.goto 16, 3) := by decide +kernel
theorem dX6_gap_26 : decode cX6_gap 26 = .ok (.aload_n 0, 1) := by decide +kernel
theorem dX6_gap_27 : decode cX6_gap 27 = .ok (.getfield 25, 3) := by decide +kernel
theorem dX6_gap_30 : decode cX6_gap 30 = .ok (.iload_n 2, 1) := by decide +kernel
theorem dX6_gap_31 : decode cX6_gap 31 = .ok (.iaload, 1) := by decide +kernel
theorem dX6_gap_32 : decode cX6_gap 32 = .ok (.aload_n 0, 1) := by decide +kernel
theorem dX6_gap_33 : decode cX6_gap 33 = .ok (.getfield 25, 3) := by decide +kernel
theorem dX6_gap_36 : decode cX6_gap 36 = .ok (.iload_n 3, 1) := by decide +kernel
theorem dX6_gap_37 : decode cX6_gap 37 = .ok (.iaload, 1) := by decide +kernel
theorem dX6_gap_38 : decode cX6_gap 38 = .ok (.isub, 1) := by decide +kernel
theorem dX6_gap_39 : decode cX6_gap 39 = .ok (.ireturn, 1) := by decide +kernel
theorem dX6_decide_0 : decode cX6_decide 0 = .ok (.aload_n 0, 1) := by decide +kernel
theorem dX6_decide_1 : decode cX6_decide 1 = .ok (.iconst 0, 1) := by decide +kernel
theorem dX6_decide_2 : decode cX6_decide 2 = .ok (.putfield 73, 3) := by decide +kernel
theorem dX6_decide_5 : decode cX6_decide 5 = .ok (.aload_n 0, 1) := by decide +kernel
theorem dX6_decide_6 : decode cX6_decide 6 = .ok (.iconst (-1), 1) := by decide +kernel
theorem dX6_decide_7 : decode cX6_decide 7 = .ok (.putfield 76, 3) := by decide +kernel
theorem dX6_decide_10 : decode cX6_decide 10 = .ok (.aload_n 0, 1) := by decide +kernel
theorem dX6_decide_11 : decode cX6_decide 11 = .ok (.iconst (-1), 1) := by decide +kernel
theorem dX6_decide_12 : decode cX6_decide 12 = .ok (.putfield 79, 3) := by decide +kernel
theorem dX6_decide_15 : decode cX6_decide 15 = .ok (.aload_n 0, 1) := by decide +kernel
theorem dX6_decide_16 : decode cX6_decide 16 = .ok (.iconst (-1), 1) := by decide +kernel
theorem dX6_decide_17 : decode cX6_decide 17 = .ok (.invokevirtual 82, 3) := by decide +kernel
theorem dX6_decide_20 : decode cX6_decide 20 = .ok (.istore_n 1, 1) := by decide +kernel
theorem dX6_decide_21 : decode cX6_decide 21 = .ok (.iload_n 1, 1) := by decide +kernel
theorem dX6_decide_22 : decode cX6_decide 22 = .ok (.ifCond .gt 4, 3) := by decide +kernel
theorem dX6_decide_25 : decode cX6_decide 25 = .ok (.return_, 1) := by decide +kernel
theorem dX6_decide_26 : decode cX6_decide 26 = .ok (.aload_n 0, 1) := by decide +kernel
theorem dX6_decide_27 : decode cX6_decide 27 = .ok (.iconst (-1), 1) := by decide +kernel
theorem dX6_decide_28 : decode cX6_decide 28 = .ok (.invokevirtual 67, 3) := by decide +kernel
theorem dX6_decide_31 : decode cX6_decide 31 = .ok (.istore_n 2, 1) := by decide +kernel
theorem dX6_decide_32 : decode cX6_decide 32 = .ok (.aload_n 0, 1) := by decide +kernel
theorem dX6_decide_33 : decode cX6_decide 33 = .ok (.aload_n 0, 1) := by decide +kernel
theorem dX6_decide_34 : decode cX6_decide 34 = .ok (.iload_n 2, 1) := by decide +kernel
theorem dX6_decide_35 : decode cX6_decide 35 = .ok (.iload_n 1, 1) := by decide +kernel
theorem dX6_decide_36 : decode cX6_decide 36 = .ok (.invokevirtual 85, 3) := by decide +kernel
theorem dX6_decide_39 : decode cX6_decide 39 = .ok (.putfield 76, 3) := by decide +kernel
theorem dX6_decide_42 : decode cX6_decide 42 = .ok (.aload_n 0, 1) := by decide +kernel
theorem dX6_decide_43 : decode cX6_decide 43 = .ok (.getfield 76, 3) := by decide +kernel
theorem dX6_decide_46 : decode cX6_decide 46 = .ok (.iconst (-1), 1) := by decide +kernel
theorem dX6_decide_47 : decode cX6_decide 47 = .ok (.if_icmp .eq 18, 3) := by decide +kernel
theorem dX6_decide_50 : decode cX6_decide 50 = .ok (.aload_n 0, 1) := by decide +kernel
theorem dX6_decide_51 : decode cX6_decide 51 = .ok (.iconst 1, 1) := by decide +kernel
theorem dX6_decide_52 : decode cX6_decide 52 = .ok (.putfield 73, 3) := by decide +kernel
theorem dX6_decide_55 : decode cX6_decide 55 = .ok (.aload_n 0, 1) := by decide +kernel
theorem dX6_decide_56 : decode cX6_decide 56 = .ok (.aload_n 0, 1) := by decide +kernel
theorem dX6_decide_57 : decode cX6_decide 57 = .ok (.iconst (-1), 1) := by decide +kernel
theorem dX6_decide_58 : decode cX6_decide 58 = .ok (.invokevirtual 70, 3) := by decide +kernel
theorem dX6_decide_61 : decode cX6_decide 61 = .ok (.putfield 79, 3) := by decide +kernel
theorem dX6_decide_64 : decode cX6_decide 64 = .ok (.return_, 1) := by decide +kernel
theorem dX6_decide_65 : decode cX6_decide 65 = .ok (.aload_n 0, 1) := by decide +kernel
theorem dX6_decide_66 : decode cX6_decide 66 = .ok (.aload_n 0, 1) := by decide +kernel
theorem dX6_decide_67 : decode cX6_decide 67 = .ok (.getfield 43, 3) := by decide +kernel
theorem dX6_decide_70 : decode cX6_decide 70 = .ok (.bipush 32, 2) := by decide +kernel
theorem dX6_decide_72 : decode cX6_decide 72 = .ok (.if_icmp .ge 11, 3) := by decide +kernel
theorem dX6_decide_75 : decode cX6_decide 75 = .ok (.aload_n 0, 1) := by decide +kernel
theorem dX6_decide_76 : decode cX6_decide 76 = .ok (.iload_n 2, 1) := by decide +kernel
theorem dX6_decide_77 : decode cX6_decide 77 = .ok (.invokevirtual 89, 3) := by decide +kernel
theorem dX6_decide_80 : decode cX6_decide 80 = .ok (.goto 4, 3) := by decide +kernel
theorem dX6_decide_83 : decode cX6_decide 83 = .ok (.iconst (-1), 1) := by decide +kernel
theorem dX6_decide_84 : decode cX6_decide 84 = .ok (.putfield 76, 3) := by decide +kernel
theorem dX6_decide_87 : decode cX6_decide 87 = .ok (.aload_n 0, 1) := by decide +kernel
theorem dX6_decide_88 : decode cX6_decide 88 = .ok (.getfield 76, 3) := by decide +kernel
theorem dX6_decide_91 : decode cX6_decide 91 = .ok (.iconst (-1), 1) := by decide +kernel
theorem dX6_decide_92 : decode cX6_decide 92 = .ok (.if_icmp .eq 20, 3) := by decide +kernel
theorem dX6_decide_95 : decode cX6_decide 95 = .ok (.aload_n 0, 1) := by decide +kernel
theorem dX6_decide_96 : decode cX6_decide 96 = .ok (.iconst 2, 1) := by decide +kernel
theorem dX6_decide_97 : decode cX6_decide 97 = .ok (.putfield 73, 3) := by decide +kernel
theorem dX6_decide_100 : decode cX6_decide 100 = .ok (.aload_n 0, 1) := by decide +kernel
theorem dX6_decide_101 : decode cX6_decide 101 = .ok (.aload_n 0, 1) := by decide +kernel
theorem dX6_decide_102 : decode cX6_decide 102 = .ok (.aload_n 0, 1) := by decide +kernel
theorem dX6_decide_103 : decode cX6_decide 103 = .ok (.getfield 76, 3) := by decide +kernel
theorem dX6_decide_106 : decode cX6_decide 106 = .ok (.invokevirtual 92, 3) := by decide +kernel
theorem dX6_decide_109 : decode cX6_decide 109 = .ok (.putfield 79, 3) := by decide +kernel
theorem dX6_decide_112 : decode cX6_decide 112 = .ok (.return_, 1) := by decide +kernel
theorem dX6_bestToMove_0 : decode cX6_bestToMove 0 = .ok (.iconst (-1), 1) := by decide +kernel
theorem dX6_bestToMove_1 : decode cX6_bestToMove 1 = .ok (.istore_n 3, 1) := by decide +kernel
theorem dX6_bestToMove_2 : decode cX6_bestToMove 2 = .ok (.iconst 0, 1) := by decide +kernel
theorem dX6_bestToMove_3 : decode cX6_bestToMove 3 = .ok (.istore 4, 2) := by decide +kernel
theorem dX6_bestToMove_5 : decode cX6_bestToMove 5 = .ok (.iconst 0, 1) := by decide +kernel
theorem dX6_bestToMove_6 : decode cX6_bestToMove 6 = .ok (.istore 5, 2) := by decide +kernel
theorem dX6_bestToMove_8 : decode cX6_bestToMove 8 = .ok (.iload 5, 2) := by decide +kernel
theorem dX6_bestToMove_10 : decode cX6_bestToMove 10 = .ok (.aload_n 0, 1) := by decide +kernel
theorem dX6_bestToMove_11 : decode cX6_bestToMove 11 = .ok (.getfield 43, 3) := by decide +kernel
theorem dX6_bestToMove_14 : decode cX6_bestToMove 14 = .ok (.if_icmp .ge 82, 3) := by decide +kernel
theorem dX6_bestToMove_17 : decode cX6_bestToMove 17 = .ok (.aload_n 0, 1) := by decide +kernel
theorem dX6_bestToMove_18 : decode cX6_bestToMove 18 = .ok (.iload 5, 2) := by decide +kernel
theorem dX6_bestToMove_20 : decode cX6_bestToMove 20 = .ok (.invokevirtual 60, 3) := by decide +kernel
theorem dX6_bestToMove_23 : decode cX6_bestToMove 23 = .ok (.istore 6, 2) := by decide +kernel
theorem dX6_bestToMove_25 : decode cX6_bestToMove 25 = .ok (.aload_n 0, 1) := by decide +kernel
theorem dX6_bestToMove_26 : decode cX6_bestToMove 26 = .ok (.getfield 18, 3) := by decide +kernel
theorem dX6_bestToMove_29 : decode cX6_bestToMove 29 = .ok (.iload 5, 2) := by decide +kernel
theorem dX6_bestToMove_31 : decode cX6_bestToMove 31 = .ok (.iaload, 1) := by decide +kernel
theorem dX6_bestToMove_32 : decode cX6_bestToMove 32 = .ok (.iload_n 1, 1) := by decide +kernel
theorem dX6_bestToMove_33 : decode cX6_bestToMove 33 = .ok (.if_icmp .ne 57, 3) := by decide +kernel
theorem dX6_bestToMove_36 : decode cX6_bestToMove 36 = .ok (.aload_n 0, 1) := by decide +kernel
theorem dX6_bestToMove_37 : decode cX6_bestToMove 37 = .ok (.getfield 21, 3) := by decide +kernel
theorem dX6_bestToMove_40 : decode cX6_bestToMove 40 = .ok (.iload 5, 2) := by decide +kernel
theorem dX6_bestToMove_42 : decode cX6_bestToMove 42 = .ok (.baload, 1) := by decide +kernel
theorem dX6_bestToMove_43 : decode cX6_bestToMove 43 = .ok (.ifCond .ne 47, 3) := by decide +kernel
theorem dX6_bestToMove_46 : decode cX6_bestToMove 46 = .ok (.iload 6, 2) := by decide +kernel
theorem dX6_bestToMove_48 : decode cX6_bestToMove 48 = .ok (.ifCond .le 42, 3) := by decide +kernel
theorem dX6_bestToMove_51 : decode cX6_bestToMove 51 = .ok (.iload 6, 2) := by decide +kernel
theorem dX6_bestToMove_53 : decode cX6_bestToMove 53 = .ok (.iload_n 2, 1) := by decide +kernel
theorem dX6_bestToMove_54 : decode cX6_bestToMove 54 = .ok (.if_icmp .lt 6, 3) := by decide +kernel
theorem dX6_bestToMove_57 : decode cX6_bestToMove 57 = .ok (.goto 33, 3) := by decide +kernel
theorem dX6_bestToMove_60 : decode cX6_bestToMove 60 = .ok (.iload_n 2, 1) := by decide +kernel
theorem dX6_bestToMove_61 : decode cX6_bestToMove 61 = .ok (.iconst 2, 1) := by decide +kernel
theorem dX6_bestToMove_62 : decode cX6_bestToMove 62 = .ok (.iload 6, 2) := by decide +kernel
theorem dX6_bestToMove_64 : decode cX6_bestToMove 64 = .ok (.imul, 1) := by decide +kernel
theorem dX6_bestToMove_65 : decode cX6_bestToMove 65 = .ok (.isub, 1) := by decide +kernel
theorem dX6_bestToMove_66 : decode cX6_bestToMove 66 = .ok (.invokestatic 95, 3) := by decide +kernel
theorem dX6_bestToMove_69 : decode cX6_bestToMove 69 = .ok (.istore 7, 2) := by decide +kernel
theorem dX6_bestToMove_71 : decode cX6_bestToMove 71 = .ok (.iload_n 3, 1) := by decide +kernel
theorem dX6_bestToMove_72 : decode cX6_bestToMove 72 = .ok (.iconst (-1), 1) := by decide +kernel
theorem dX6_bestToMove_73 : decode cX6_bestToMove 73 = .ok (.if_icmp .eq 10, 3) := by decide +kernel
theorem dX6_bestToMove_76 : decode cX6_bestToMove 76 = .ok (.iload 7, 2) := by decide +kernel
theorem dX6_bestToMove_78 : decode cX6_bestToMove 78 = .ok (.iload 4, 2) := by decide +kernel
theorem dX6_bestToMove_80 : decode cX6_bestToMove 80 = .ok (.if_icmp .ge 10, 3) := by decide +kernel
theorem dX6_bestToMove_83 : decode cX6_bestToMove 83 = .ok (.iload 5, 2) := by decide +kernel
theorem dX6_bestToMove_85 : decode cX6_bestToMove 85 = .ok (.istore_n 3, 1) := by decide +kernel
theorem dX6_bestToMove_86 : decode cX6_bestToMove 86 = .ok (.iload 7, 2) := by decide +kernel
theorem dX6_bestToMove_88 : decode cX6_bestToMove 88 = .ok (.istore 4, 2) := by decide +kernel
theorem dX6_bestToMove_90 : decode cX6_bestToMove 90 = .ok (.iinc 5 1, 3) := by decide +kernel
theorem dX6_bestToMove_93 : decode cX6_bestToMove 93 = .ok (.goto (-85), 3) := by decide +kernel
theorem dX6_bestToMove_96 : decode cX6_bestToMove 96 = .ok (.iload_n 3, 1) := by decide +kernel
theorem dX6_bestToMove_97 : decode cX6_bestToMove 97 = .ok (.ireturn, 1) := by decide +kernel
theorem dX6_bestToSplit_0 : decode cX6_bestToSplit 0 = .ok (.iconst (-1), 1) := by decide +kernel
theorem dX6_bestToSplit_1 : decode cX6_bestToSplit 1 = .ok (.istore_n 2, 1) := by decide +kernel
theorem dX6_bestToSplit_2 : decode cX6_bestToSplit 2 = .ok (.iconst 0, 1) := by decide +kernel
theorem dX6_bestToSplit_3 : decode cX6_bestToSplit 3 = .ok (.istore_n 3, 1) := by decide +kernel
theorem dX6_bestToSplit_4 : decode cX6_bestToSplit 4 = .ok (.iload_n 3, 1) := by decide +kernel
theorem dX6_bestToSplit_5 : decode cX6_bestToSplit 5 = .ok (.aload_n 0, 1) := by decide +kernel
theorem dX6_bestToSplit_6 : decode cX6_bestToSplit 6 = .ok (.getfield 43, 3) := by decide +kernel
theorem dX6_bestToSplit_9 : decode cX6_bestToSplit 9 = .ok (.if_icmp .ge 69, 3) := by decide +kernel
theorem dX6_bestToSplit_12 : decode cX6_bestToSplit 12 = .ok (.iload_n 2, 1) := by decide +kernel
theorem dX6_bestToSplit_13 : decode cX6_bestToSplit 13 = .ok (.iconst (-1), 1) := by decide +kernel
theorem dX6_bestToSplit_14 : decode cX6_bestToSplit 14 = .ok (.if_icmp .eq 16, 3) := by decide +kernel
theorem dX6_bestToSplit_17 : decode cX6_bestToSplit 17 = .ok (.aload_n 0, 1) := by decide +kernel
theorem dX6_bestToSplit_18 : decode cX6_bestToSplit 18 = .ok (.iload_n 3, 1) := by decide +kernel
theorem dX6_bestToSplit_19 : decode cX6_bestToSplit 19 = .ok (.invokevirtual 60, 3) := by decide +kernel
theorem dX6_bestToSplit_22 : decode cX6_bestToSplit 22 = .ok (.aload_n 0, 1) := by decide +kernel
theorem dX6_bestToSplit_23 : decode cX6_bestToSplit 23 = .ok (.iload_n 2, 1) := by decide +kernel
theorem dX6_bestToSplit_24 : decode cX6_bestToSplit 24 = .ok (.invokevirtual 60, 3) := by decide +kernel
theorem dX6_bestToSplit_27 : decode cX6_bestToSplit 27 = .ok (.if_icmp .le 7, 3) := by decide +kernel
theorem dX6_bestToSplit_30 : decode cX6_bestToSplit 30 = .ok (.iconst 1, 1) := by decide +kernel
theorem dX6_bestToSplit_31 : decode cX6_bestToSplit 31 = .ok (.goto 4, 3) := by decide +kernel
theorem dX6_bestToSplit_34 : decode cX6_bestToSplit 34 = .ok (.iconst 0, 1) := by decide +kernel
theorem dX6_bestToSplit_35 : decode cX6_bestToSplit 35 = .ok (.istore 4, 2) := by decide +kernel
theorem dX6_bestToSplit_37 : decode cX6_bestToSplit 37 = .ok (.aload_n 0, 1) := by decide +kernel
theorem dX6_bestToSplit_38 : decode cX6_bestToSplit 38 = .ok (.getfield 18, 3) := by decide +kernel
theorem dX6_bestToSplit_41 : decode cX6_bestToSplit 41 = .ok (.iload_n 3, 1) := by decide +kernel
theorem dX6_bestToSplit_42 : decode cX6_bestToSplit 42 = .ok (.iaload, 1) := by decide +kernel
theorem dX6_bestToSplit_43 : decode cX6_bestToSplit 43 = .ok (.iload_n 1, 1) := by decide +kernel
theorem dX6_bestToSplit_44 : decode cX6_bestToSplit 44 = .ok (.if_icmp .ne 28, 3) := by decide +kernel
theorem dX6_bestToSplit_47 : decode cX6_bestToSplit 47 = .ok (.aload_n 0, 1) := by decide +kernel
theorem dX6_bestToSplit_48 : decode cX6_bestToSplit 48 = .ok (.getfield 21, 3) := by decide +kernel
theorem dX6_bestToSplit_51 : decode cX6_bestToSplit 51 = .ok (.iload_n 3, 1) := by decide +kernel
theorem dX6_bestToSplit_52 : decode cX6_bestToSplit 52 = .ok (.baload, 1) := by decide +kernel
theorem dX6_bestToSplit_53 : decode cX6_bestToSplit 53 = .ok (.ifCond .ne 19, 3) := by decide +kernel
theorem dX6_bestToSplit_56 : decode cX6_bestToSplit 56 = .ok (.iload 4, 2) := by decide +kernel
theorem dX6_bestToSplit_58 : decode cX6_bestToSplit 58 = .ok (.ifCond .eq 14, 3) := by decide +kernel
theorem dX6_bestToSplit_61 : decode cX6_bestToSplit 61 = .ok (.aload_n 0, 1) := by decide +kernel
theorem dX6_bestToSplit_62 : decode cX6_bestToSplit 62 = .ok (.iload_n 3, 1) := by decide +kernel
theorem dX6_bestToSplit_63 : decode cX6_bestToSplit 63 = .ok (.invokevirtual 92, 3) := by decide +kernel
theorem dX6_bestToSplit_66 : decode cX6_bestToSplit 66 = .ok (.iconst (-1), 1) := by decide +kernel
theorem dX6_bestToSplit_67 : decode cX6_bestToSplit 67 = .ok (.if_icmp .eq 5, 3) := by decide +kernel
theorem dX6_bestToSplit_70 : decode cX6_bestToSplit 70 = .ok (.iload_n 3, 1) := by decide +kernel
theorem dX6_bestToSplit_71 : decode cX6_bestToSplit 71 = .ok (.istore_n 2, 1) := by decide +kernel
theorem dX6_bestToSplit_72 : decode cX6_bestToSplit 72 = .ok (.iinc 3 1, 3) := by decide +kernel
theorem dX6_bestToSplit_75 : decode cX6_bestToSplit 75 = .ok (.goto (-71), 3) := by decide +kernel
theorem dX6_bestToSplit_78 : decode cX6_bestToSplit 78 = .ok (.iload_n 2, 1) := by decide +kernel
theorem dX6_bestToSplit_79 : decode cX6_bestToSplit 79 = .ok (.ireturn, 1) := by decide +kernel
theorem dX6_heaviestFree_0 : decode cX6_heaviestFree 0 = .ok (.iconst (-1), 1) := by decide +kernel
theorem dX6_heaviestFree_1 : decode cX6_heaviestFree 1 = .ok (.istore_n 2, 1) := by decide +kernel
theorem dX6_heaviestFree_2 : decode cX6_heaviestFree 2 = .ok (.iconst 0, 1) := by decide +kernel
theorem dX6_heaviestFree_3 : decode cX6_heaviestFree 3 = .ok (.istore_n 3, 1) := by decide +kernel
theorem dX6_heaviestFree_4 : decode cX6_heaviestFree 4 = .ok (.iload_n 3, 1) := by decide +kernel
theorem dX6_heaviestFree_5 : decode cX6_heaviestFree 5 = .ok (.aload_n 0, 1) := by decide +kernel
theorem dX6_heaviestFree_6 : decode cX6_heaviestFree 6 = .ok (.getfield 43, 3) := by decide +kernel
theorem dX6_heaviestFree_9 : decode cX6_heaviestFree 9 = .ok (.if_icmp .ge 48, 3) := by decide +kernel
theorem dX6_heaviestFree_12 : decode cX6_heaviestFree 12 = .ok (.aload_n 0, 1) := by decide +kernel
theorem dX6_heaviestFree_13 : decode cX6_heaviestFree 13 = .ok (.getfield 18, 3) := by decide +kernel
theorem dX6_heaviestFree_16 : decode cX6_heaviestFree 16 = .ok (.iload_n 3, 1) := by decide +kernel
theorem dX6_heaviestFree_17 : decode cX6_heaviestFree 17 = .ok (.iaload, 1) := by decide +kernel
theorem dX6_heaviestFree_18 : decode cX6_heaviestFree 18 = .ok (.iload_n 1, 1) := by decide +kernel
theorem dX6_heaviestFree_19 : decode cX6_heaviestFree 19 = .ok (.if_icmp .ne 32, 3) := by decide +kernel
theorem dX6_heaviestFree_22 : decode cX6_heaviestFree 22 = .ok (.aload_n 0, 1) := by decide +kernel
theorem dX6_heaviestFree_23 : decode cX6_heaviestFree 23 = .ok (.getfield 21, 3) := by decide +kernel
theorem dX6_heaviestFree_26 : decode cX6_heaviestFree 26 = .ok (.iload_n 3, 1) := by decide +kernel
theorem dX6_heaviestFree_27 : decode cX6_heaviestFree 27 = .ok (.baload, 1) := by decide +kernel
theorem dX6_heaviestFree_28 : decode cX6_heaviestFree 28 = .ok (.ifCond .ne 23, 3) := by decide +kernel
theorem dX6_heaviestFree_31 : decode cX6_heaviestFree 31 = .ok (.iload_n 2, 1) := by decide +kernel
theorem dX6_heaviestFree_32 : decode cX6_heaviestFree 32 = .ok (.iconst (-1), 1) := by decide +kernel
theorem dX6_heaviestFree_33 : decode cX6_heaviestFree 33 = .ok (.if_icmp .eq 16, 3) := by decide +kernel
theorem dX6_heaviestFree_36 : decode cX6_heaviestFree 36 = .ok (.aload_n 0, 1) := by decide +kernel
theorem dX6_heaviestFree_37 : decode cX6_heaviestFree 37 = .ok (.iload_n 3, 1) := by decide +kernel
theorem dX6_heaviestFree_38 : decode cX6_heaviestFree 38 = .ok (.invokevirtual 60, 3) := by decide +kernel
theorem dX6_heaviestFree_41 : decode cX6_heaviestFree 41 = .ok (.aload_n 0, 1) := by decide +kernel
theorem dX6_heaviestFree_42 : decode cX6_heaviestFree 42 = .ok (.iload_n 2, 1) := by decide +kernel
theorem dX6_heaviestFree_43 : decode cX6_heaviestFree 43 = .ok (.invokevirtual 60, 3) := by decide +kernel
theorem dX6_heaviestFree_46 : decode cX6_heaviestFree 46 = .ok (.if_icmp .le 5, 3) := by decide +kernel
theorem dX6_heaviestFree_49 : decode cX6_heaviestFree 49 = .ok (.iload_n 3, 1) := by decide +kernel
theorem dX6_heaviestFree_50 : decode cX6_heaviestFree 50 = .ok (.istore_n 2, 1) := by decide +kernel
theorem dX6_heaviestFree_51 : decode cX6_heaviestFree 51 = .ok (.iinc 3 1, 3) := by decide +kernel
theorem dX6_heaviestFree_54 : decode cX6_heaviestFree 54 = .ok (.goto (-50), 3) := by decide +kernel
theorem dX6_heaviestFree_57 : decode cX6_heaviestFree 57 = .ok (.iload_n 2, 1) := by decide +kernel
theorem dX6_heaviestFree_58 : decode cX6_heaviestFree 58 = .ok (.ireturn, 1) := by decide +kernel
theorem dX6_handTo_0 : decode cX6_handTo 0 = .ok (.aload_n 0, 1) := by decide +kernel
theorem dX6_handTo_1 : decode cX6_handTo 1 = .ok (.iload_n 1, 1) := by decide +kernel
theorem dX6_handTo_2 : decode cX6_handTo 2 = .ok (.invokevirtual 60, 3) := by decide +kernel
theorem dX6_handTo_5 : decode cX6_handTo 5 = .ok (.istore_n 3, 1) := by decide +kernel
theorem dX6_handTo_6 : decode cX6_handTo 6 = .ok (.aload_n 0, 1) := by decide +kernel
theorem dX6_handTo_7 : decode cX6_handTo 7 = .ok (.getfield 25, 3) := by decide +kernel
theorem dX6_handTo_10 : decode cX6_handTo 10 = .ok (.aload_n 0, 1) := by decide +kernel
theorem dX6_handTo_11 : decode cX6_handTo 11 = .ok (.getfield 18, 3) := by decide +kernel
theorem dX6_handTo_14 : decode cX6_handTo 14 = .ok (.iload_n 1, 1) := by decide +kernel
theorem dX6_handTo_15 : decode cX6_handTo 15 = .ok (.iaload, 1) := by decide +kernel
theorem dX6_handTo_16 : decode cX6_handTo 16 = .ok (.dup2, 1) := by decide +kernel
theorem dX6_handTo_17 : decode cX6_handTo 17 = .ok (.iaload, 1) := by decide +kernel
theorem dX6_handTo_18 : decode cX6_handTo 18 = .ok (.iload_n 3, 1) := by decide +kernel
theorem dX6_handTo_19 : decode cX6_handTo 19 = .ok (.isub, 1) := by decide +kernel
theorem dX6_handTo_20 : decode cX6_handTo 20 = .ok (.iastore, 1) := by decide +kernel
theorem dX6_handTo_21 : decode cX6_handTo 21 = .ok (.aload_n 0, 1) := by decide +kernel
theorem dX6_handTo_22 : decode cX6_handTo 22 = .ok (.getfield 25, 3) := by decide +kernel
theorem dX6_handTo_25 : decode cX6_handTo 25 = .ok (.iload_n 2, 1) := by decide +kernel
theorem dX6_handTo_26 : decode cX6_handTo 26 = .ok (.dup2, 1) := by decide +kernel
theorem dX6_handTo_27 : decode cX6_handTo 27 = .ok (.iaload, 1) := by decide +kernel
theorem dX6_handTo_28 : decode cX6_handTo 28 = .ok (.iload_n 3, 1) := by decide +kernel
theorem dX6_handTo_29 : decode cX6_handTo 29 = .ok (.iadd, 1) := by decide +kernel
theorem dX6_handTo_30 : decode cX6_handTo 30 = .ok (.iastore, 1) := by decide +kernel
theorem dX6_handTo_31 : decode cX6_handTo 31 = .ok (.aload_n 0, 1) := by decide +kernel
theorem dX6_handTo_32 : decode cX6_handTo 32 = .ok (.getfield 18, 3) := by decide +kernel
theorem dX6_handTo_35 : decode cX6_handTo 35 = .ok (.iload_n 1, 1) := by decide +kernel
theorem dX6_handTo_36 : decode cX6_handTo 36 = .ok (.iload_n 2, 1) := by decide +kernel
theorem dX6_handTo_37 : decode cX6_handTo 37 = .ok (.iastore, 1) := by decide +kernel
theorem dX6_handTo_38 : decode cX6_handTo 38 = .ok (.return_, 1) := by decide +kernel
theorem dX6_carryOut_0 : decode cX6_carryOut 0 = .ok (.aload_n 0, 1) := by decide +kernel
theorem dX6_carryOut_1 : decode cX6_carryOut 1 = .ok (.getfield 73, 3) := by decide +kernel
theorem dX6_carryOut_4 : decode cX6_carryOut 4 = .ok (.iconst 1, 1) := by decide +kernel
theorem dX6_carryOut_5 : decode cX6_carryOut 5 = .ok (.if_icmp .ne 18, 3) := by decide +kernel
theorem dX6_carryOut_8 : decode cX6_carryOut 8 = .ok (.aload_n 0, 1) := by decide +kernel
theorem dX6_carryOut_9 : decode cX6_carryOut 9 = .ok (.aload_n 0, 1) := by decide +kernel
theorem dX6_carryOut_10 : decode cX6_carryOut 10 = .ok (.getfield 76, 3) := by decide +kernel
theorem dX6_carryOut_13 : decode cX6_carryOut 13 = .ok (.aload_n 0, 1) := by decide +kernel
theorem dX6_carryOut_14 : decode cX6_carryOut 14 = .ok (.getfield 79, 3) := by decide +kernel
theorem dX6_carryOut_17 : decode cX6_carryOut 17 = .ok (.invokevirtual 100, 3) := by decide +kernel
theorem dX6_carryOut_20 : decode cX6_carryOut 20 = .ok (.goto 23, 3) := by decide +kernel
theorem dX6_carryOut_23 : decode cX6_carryOut 23 = .ok (.aload_n 0, 1) := by decide +kernel
theorem dX6_carryOut_24 : decode cX6_carryOut 24 = .ok (.getfield 73, 3) := by decide +kernel
theorem dX6_carryOut_27 : decode cX6_carryOut 27 = .ok (.iconst 2, 1) := by decide +kernel
theorem dX6_carryOut_28 : decode cX6_carryOut 28 = .ok (.if_icmp .ne 15, 3) := by decide +kernel
theorem dX6_carryOut_31 : decode cX6_carryOut 31 = .ok (.aload_n 0, 1) := by decide +kernel
theorem dX6_carryOut_32 : decode cX6_carryOut 32 = .ok (.aload_n 0, 1) := by decide +kernel
theorem dX6_carryOut_33 : decode cX6_carryOut 33 = .ok (.getfield 76, 3) := by decide +kernel
theorem dX6_carryOut_36 : decode cX6_carryOut 36 = .ok (.aload_n 0, 1) := by decide +kernel
theorem dX6_carryOut_37 : decode cX6_carryOut 37 = .ok (.getfield 79, 3) := by decide +kernel
theorem dX6_carryOut_40 : decode cX6_carryOut 40 = .ok (.invokevirtual 104, 3) := by decide +kernel
theorem dX6_carryOut_43 : decode cX6_carryOut 43 = .ok (.return_, 1) := by decide +kernel
theorem dX6_cut_0 : decode cX6_cut 0 = .ok (.aload_n 0, 1) := by decide +kernel
theorem dX6_cut_1 : decode cX6_cut 1 = .ok (.getfield 43, 3) := by decide +kernel
theorem dX6_cut_4 : decode cX6_cut 4 = .ok (.istore_n 3, 1) := by decide +kernel
theorem dX6_cut_5 : decode cX6_cut 5 = .ok (.iload_n 3, 1) := by decide +kernel
theorem dX6_cut_6 : decode cX6_cut 6 = .ok (.iload_n 1, 1) := by decide +kernel
theorem dX6_cut_7 : decode cX6_cut 7 = .ok (.if_icmp .le 23, 3) := by decide +kernel
theorem dX6_cut_10 : decode cX6_cut 10 = .ok (.aload_n 0, 1) := by decide +kernel
theorem dX6_cut_11 : decode cX6_cut 11 = .ok (.getfield 15, 3) := by decide +kernel
theorem dX6_cut_14 : decode cX6_cut 14 = .ok (.iload_n 3, 1) := by decide +kernel
theorem dX6_cut_15 : decode cX6_cut 15 = .ok (.iconst 1, 1) := by decide +kernel
theorem dX6_cut_16 : decode cX6_cut 16 = .ok (.iadd, 1) := by decide +kernel
theorem dX6_cut_17 : decode cX6_cut 17 = .ok (.aload_n 0, 1) := by decide +kernel
theorem dX6_cut_18 : decode cX6_cut 18 = .ok (.getfield 15, 3) := by decide +kernel
theorem dX6_cut_21 : decode cX6_cut 21 = .ok (.iload_n 3, 1) := by decide +kernel
theorem dX6_cut_22 : decode cX6_cut 22 = .ok (.iaload, 1) := by decide +kernel
theorem dX6_cut_23 : decode cX6_cut 23 = .ok (.iastore, 1) := by decide +kernel
theorem dX6_cut_24 : decode cX6_cut 24 = .ok (.iinc 3 (-1), 3) := by decide +kernel
theorem dX6_cut_27 : decode cX6_cut 27 = .ok (.goto (-22), 3) := by decide +kernel
theorem dX6_cut_30 : decode cX6_cut 30 = .ok (.aload_n 0, 1) := by decide +kernel
theorem dX6_cut_31 : decode cX6_cut 31 = .ok (.getfield 43, 3) := by decide +kernel
theorem dX6_cut_34 : decode cX6_cut 34 = .ok (.istore_n 3, 1) := by decide +kernel
theorem dX6_cut_35 : decode cX6_cut 35 = .ok (.iload_n 3, 1) := by decide +kernel
theorem dX6_cut_36 : decode cX6_cut 36 = .ok (.iload_n 1, 1) := by decide +kernel
theorem dX6_cut_37 : decode cX6_cut 37 = .ok (.iconst 1, 1) := by decide +kernel
theorem dX6_cut_38 : decode cX6_cut 38 = .ok (.iadd, 1) := by decide +kernel
theorem dX6_cut_39 : decode cX6_cut 39 = .ok (.if_icmp .le 37, 3) := by decide +kernel
theorem dX6_cut_42 : decode cX6_cut 42 = .ok (.aload_n 0, 1) := by decide +kernel
theorem dX6_cut_43 : decode cX6_cut 43 = .ok (.getfield 18, 3) := by decide +kernel
theorem dX6_cut_46 : decode cX6_cut 46 = .ok (.iload_n 3, 1) := by decide +kernel
theorem dX6_cut_47 : decode cX6_cut 47 = .ok (.aload_n 0, 1) := by decide +kernel
theorem dX6_cut_48 : decode cX6_cut 48 = .ok (.getfield 18, 3) := by decide +kernel
theorem dX6_cut_51 : decode cX6_cut 51 = .ok (.iload_n 3, 1) := by decide +kernel
theorem dX6_cut_52 : decode cX6_cut 52 = .ok (.iconst 1, 1) := by decide +kernel
theorem dX6_cut_53 : decode cX6_cut 53 = .ok (.isub, 1) := by decide +kernel
theorem dX6_cut_54 : decode cX6_cut 54 = .ok (.iaload, 1) := by decide +kernel
theorem dX6_cut_55 : decode cX6_cut 55 = .ok (.iastore, 1) := by decide +kernel
theorem dX6_cut_56 : decode cX6_cut 56 = .ok (.aload_n 0, 1) := by decide +kernel
theorem dX6_cut_57 : decode cX6_cut 57 = .ok (.getfield 21, 3) := by decide +kernel
theorem dX6_cut_60 : decode cX6_cut 60 = .ok (.iload_n 3, 1) := by decide +kernel
theorem dX6_cut_61 : decode cX6_cut 61 = .ok (.aload_n 0, 1) := by decide +kernel
theorem dX6_cut_62 : decode cX6_cut 62 = .ok (.getfield 21, 3) := by decide +kernel
theorem dX6_cut_65 : decode cX6_cut 65 = .ok (.iload_n 3, 1) := by decide +kernel
theorem dX6_cut_66 : decode cX6_cut 66 = .ok (.iconst 1, 1) := by decide +kernel
theorem dX6_cut_67 : decode cX6_cut 67 = .ok (.isub, 1) := by decide +kernel
theorem dX6_cut_68 : decode cX6_cut 68 = .ok (.baload, 1) := by decide +kernel
theorem dX6_cut_69 : decode cX6_cut 69 = .ok (.bastore, 1) := by decide +kernel
theorem dX6_cut_70 : decode cX6_cut 70 = .ok (.iinc 3 (-1), 3) := by decide +kernel
theorem dX6_cut_73 : decode cX6_cut 73 = .ok (.goto (-38), 3) := by decide +kernel
theorem dX6_cut_76 : decode cX6_cut 76 = .ok (.aload_n 0, 1) := by decide +kernel
theorem dX6_cut_77 : decode cX6_cut 77 = .ok (.dup, 1) := by decide +kernel
theorem dX6_cut_78 : decode cX6_cut 78 = .ok (.getfield 43, 3) := by decide +kernel
theorem dX6_cut_81 : decode cX6_cut 81 = .ok (.iconst 1, 1) := by decide +kernel
theorem dX6_cut_82 : decode cX6_cut 82 = .ok (.iadd, 1) := by decide +kernel
theorem dX6_cut_83 : decode cX6_cut 83 = .ok (.putfield 43, 3) := by decide +kernel
theorem dX6_cut_86 : decode cX6_cut 86 = .ok (.aload_n 0, 1) := by decide +kernel
theorem dX6_cut_87 : decode cX6_cut 87 = .ok (.getfield 15, 3) := by decide +kernel
theorem dX6_cut_90 : decode cX6_cut 90 = .ok (.iload_n 1, 1) := by decide +kernel
theorem dX6_cut_91 : decode cX6_cut 91 = .ok (.iconst 1, 1) := by decide +kernel
theorem dX6_cut_92 : decode cX6_cut 92 = .ok (.iadd, 1) := by decide +kernel
theorem dX6_cut_93 : decode cX6_cut 93 = .ok (.iload_n 2, 1) := by decide +kernel
theorem dX6_cut_94 : decode cX6_cut 94 = .ok (.iastore, 1) := by decide +kernel
theorem dX6_cut_95 : decode cX6_cut 95 = .ok (.aload_n 0, 1) := by decide +kernel
theorem dX6_cut_96 : decode cX6_cut 96 = .ok (.getfield 18, 3) := by decide +kernel
theorem dX6_cut_99 : decode cX6_cut 99 = .ok (.iload_n 1, 1) := by decide +kernel
theorem dX6_cut_100 : decode cX6_cut 100 = .ok (.iconst 1, 1) := by decide +kernel
theorem dX6_cut_101 : decode cX6_cut 101 = .ok (.iadd, 1) := by decide +kernel
theorem dX6_cut_102 : decode cX6_cut 102 = .ok (.aload_n 0, 1) := by decide +kernel
theorem dX6_cut_103 : decode cX6_cut 103 = .ok (.getfield 18, 3) := by decide +kernel
theorem dX6_cut_106 : decode cX6_cut 106 = .ok (.iload_n 1, 1) := by decide +kernel
theorem dX6_cut_107 : decode cX6_cut 107 = .ok (.iaload, 1) := by decide +kernel
theorem dX6_cut_108 : decode cX6_cut 108 = .ok (.iastore, 1) := by decide +kernel
theorem dX6_cut_109 : decode cX6_cut 109 = .ok (.aload_n 0, 1) := by decide +kernel
theorem dX6_cut_110 : decode cX6_cut 110 = .ok (.getfield 21, 3) := by decide +kernel
theorem dX6_cut_113 : decode cX6_cut 113 = .ok (.iload_n 1, 1) := by decide +kernel
theorem dX6_cut_114 : decode cX6_cut 114 = .ok (.iconst 1, 1) := by decide +kernel
theorem dX6_cut_115 : decode cX6_cut 115 = .ok (.iadd, 1) := by decide +kernel
theorem dX6_cut_116 : decode cX6_cut 116 = .ok (.iconst 0, 1) := by decide +kernel
theorem dX6_cut_117 : decode cX6_cut 117 = .ok (.bastore, 1) := by decide +kernel
theorem dX6_cut_118 : decode cX6_cut 118 = .ok (.return_, 1) := by decide +kernel
theorem dX7_init_0 : decode cX7_init 0 = .ok (.aload_n 0, 1) := by decide +kernel
theorem dX7_init_1 : decode cX7_init 1 = .ok (.invokespecial 3, 3) := by decide +kernel
theorem dX7_init_4 : decode cX7_init 4 = .ok (.aload_n 0, 1) := by decide +kernel
theorem dX7_init_5 : decode cX7_init 5 = .ok (.sipush 400, 3) := by decide +kernel
theorem dX7_init_8 : decode cX7_init 8 = .ok (.newarray .char, 2) := by decide +kernel
theorem dX7_init_10 : decode cX7_init 10 = .ok (.putfield 9, 3) := by decide +kernel
theorem dX7_init_13 : decode cX7_init 13 = .ok (.aload_n 0, 1) := by decide +kernel
theorem dX7_init_14 : decode cX7_init 14 = .ok (.bipush 120, 2) := by decide +kernel
theorem dX7_init_16 : decode cX7_init 16 = .ok (.newarray .int, 2) := by decide +kernel
theorem dX7_init_18 : decode cX7_init 18 = .ok (.putfield 15, 3) := by decide +kernel
theorem dX7_init_21 : decode cX7_init 21 = .ok (.aload_n 0, 1) := by decide +kernel
theorem dX7_init_22 : decode cX7_init 22 = .ok (.bipush 40, 2) := by decide +kernel
theorem dX7_init_24 : decode cX7_init 24 = .ok (.newarray .int, 2) := by decide +kernel
theorem dX7_init_26 : decode cX7_init 26 = .ok (.putfield 19, 3) := by decide +kernel
theorem dX7_init_29 : decode cX7_init 29 = .ok (.aload_n 0, 1) := by decide +kernel
theorem dX7_init_30 : decode cX7_init 30 = .ok (.iconst (-1), 1) := by decide +kernel
theorem dX7_init_31 : decode cX7_init 31 = .ok (.putfield 22, 3) := by decide +kernel
theorem dX7_init_34 : decode cX7_init 34 = .ok (.return_, 1) := by decide +kernel
theorem dX7_addFour_0 : decode cX7_addFour 0 = .ok (.bipush 24, 2) := by decide +kernel
theorem dX7_addFour_2 : decode cX7_addFour 2 = .ok (.istore_n 2, 1) := by decide +kernel
theorem dX7_addFour_3 : decode cX7_addFour 3 = .ok (.iload_n 2, 1) := by decide +kernel
theorem dX7_addFour_4 : decode cX7_addFour 4 = .ok (.ifCond .lt 46, 3) := by decide +kernel
theorem dX7_addFour_7 : decode cX7_addFour 7 = .ok (.aload_n 0, 1) := by decide +kernel
theorem dX7_addFour_8 : decode cX7_addFour 8 = .ok (.getfield 26, 3) := by decide +kernel
theorem dX7_addFour_11 : decode cX7_addFour 11 = .ok (.sipush 400, 3) := by decide +kernel
theorem dX7_addFour_14 : decode cX7_addFour 14 = .ok (.if_icmp .ge 36, 3) := by decide +kernel
theorem dX7_addFour_17 : decode cX7_addFour 17 = .ok (.aload_n 0, 1) := by decide +kernel
theorem dX7_addFour_18 : decode cX7_addFour 18 = .ok (.getfield 9, 3) := by decide +kernel
theorem dX7_addFour_21 : decode cX7_addFour 21 = .ok (.aload_n 0, 1) := by decide +kernel
theorem dX7_addFour_22 : decode cX7_addFour 22 = .ok (.getfield 26, 3) := by decide +kernel
theorem dX7_addFour_25 : decode cX7_addFour 25 = .ok (.iload_n 1, 1) := by decide +kernel
theorem dX7_addFour_26 : decode cX7_addFour 26 = .ok (.iload_n 2, 1) := by decide +kernel
theorem dX7_addFour_27 : decode cX7_addFour 27 = .ok (.ishr, 1) := by decide +kernel
theorem dX7_addFour_28 : decode cX7_addFour 28 = .ok (.sipush 255, 3) := by decide +kernel
theorem dX7_addFour_31 : decode cX7_addFour 31 = .ok (.iand, 1) := by decide +kernel
theorem dX7_addFour_32 : decode cX7_addFour 32 = .ok (.i2c, 1) := by decide +kernel
theorem dX7_addFour_33 : decode cX7_addFour 33 = .ok (.castore, 1) := by decide +kernel
theorem dX7_addFour_34 : decode cX7_addFour 34 = .ok (.aload_n 0, 1) := by decide +kernel
theorem dX7_addFour_35 : decode cX7_addFour 35 = .ok (.dup, 1) := by decide +kernel
theorem dX7_addFour_36 : decode cX7_addFour 36 = .ok (.getfield 26, 3) := by decide +kernel
theorem dX7_addFour_39 : decode cX7_addFour 39 = .ok (.iconst 1, 1) := by decide +kernel
theorem dX7_addFour_40 : decode cX7_addFour 40 = .ok (.iadd, 1) := by decide +kernel
theorem dX7_addFour_41 : decode cX7_addFour 41 = .ok (.putfield 26, 3) := by decide +kernel
theorem dX7_addFour_44 : decode cX7_addFour 44 = .ok (.iinc 2 (-8), 3) := by decide +kernel
theorem dX7_addFour_47 : decode cX7_addFour 47 = .ok (.goto (-44), 3) := by decide +kernel
theorem dX7_addFour_50 : decode cX7_addFour 50 = .ok (.return_, 1) := by decide +kernel
theorem dX7_numberOf_0 : decode cX7_numberOf 0 = .ok (.aload_n 0, 1) := by decide +kernel
theorem dX7_numberOf_1 : decode cX7_numberOf 1 = .ok (.getfield 15, 3) := by decide +kernel
theorem dX7_numberOf_4 : decode cX7_numberOf 4 = .ok (.iload_n 1, 1) := by decide +kernel
theorem dX7_numberOf_5 : decode cX7_numberOf 5 = .ok (.iconst 3, 1) := by decide +kernel
theorem dX7_numberOf_6 : decode cX7_numberOf 6 = .ok (.imul, 1) := by decide +kernel
theorem dX7_numberOf_7 : decode cX7_numberOf 7 = .ok (.iload_n 2, 1) := by decide +kernel
theorem dX7_numberOf_8 : decode cX7_numberOf 8 = .ok (.iadd, 1) := by decide +kernel
theorem dX7_numberOf_9 : decode cX7_numberOf 9 = .ok (.iaload, 1) := by decide +kernel
theorem dX7_numberOf_10 : decode cX7_numberOf 10 = .ok (.ireturn, 1) := by decide +kernel
theorem dX7_parse_0 : decode cX7_parse 0 = .ok (.aload_n 0, 1) := by decide +kernel
theorem dX7_parse_1 : decode cX7_parse 1 = .ok (.iconst 0, 1) := by decide +kernel
theorem dX7_parse_2 : decode cX7_parse 2 = .ok (.putfield 29, 3) := by decide +kernel
theorem dX7_parse_5 : decode cX7_parse 5 = .ok (.aload_n 0, 1) := by decide +kernel
theorem dX7_parse_6 : decode cX7_parse 6 = .ok (.iconst 0, 1) := by decide +kernel
theorem dX7_parse_7 : decode cX7_parse 7 = .ok (.putfield 32, 3) := by decide +kernel
theorem dX7_parse_10 : decode cX7_parse 10 = .ok (.aload_n 0, 1) := by decide +kernel
theorem dX7_parse_11 : decode cX7_parse 11 = .ok (.iconst 0, 1) := by decide +kernel
theorem dX7_parse_12 : decode cX7_parse 12 = .ok (.putfield 35, 3) := by decide +kernel
theorem dX7_parse_15 : decode cX7_parse 15 = .ok (.aload_n 0, 1) := by decide +kernel
theorem dX7_parse_16 : decode cX7_parse 16 = .ok (.iconst (-1), 1) := by decide +kernel
theorem dX7_parse_17 : decode cX7_parse 17 = .ok (.putfield 22, 3) := by decide +kernel
theorem dX7_parse_20 : decode cX7_parse 20 = .ok (.aload_n 0, 1) := by decide +kernel
theorem dX7_parse_21 : decode cX7_parse 21 = .ok (.invokevirtual 38, 3) := by decide +kernel
theorem dX7_parse_24 : decode cX7_parse 24 = .ok (.iconst 0, 1) := by decide +kernel
theorem dX7_parse_25 : decode cX7_parse 25 = .ok (.istore_n 1, 1) := by decide +kernel
theorem dX7_parse_26 : decode cX7_parse 26 = .ok (.iload_n 1, 1) := by decide +kernel
theorem dX7_parse_27 : decode cX7_parse 27 = .ok (.bipush 40, 2) := by decide +kernel
theorem dX7_parse_29 : decode cX7_parse 29 = .ok (.if_icmp .gt 35, 3) := by decide +kernel
theorem dX7_parse_32 : decode cX7_parse 32 = .ok (.aload_n 0, 1) := by decide +kernel
theorem dX7_parse_33 : decode cX7_parse 33 = .ok (.getfield 29, 3) := by decide +kernel
theorem dX7_parse_36 : decode cX7_parse 36 = .ok (.aload_n 0, 1) := by decide +kernel
theorem dX7_parse_37 : decode cX7_parse 37 = .ok (.getfield 26, 3) := by decide +kernel
theorem dX7_parse_40 : decode cX7_parse 40 = .ok (.if_icmp .ge 24, 3) := by decide +kernel
theorem dX7_parse_43 : decode cX7_parse 43 = .ok (.aload_n 0, 1) := by decide +kernel
theorem dX7_parse_44 : decode cX7_parse 44 = .ok (.getfield 35, 3) := by decide +kernel
theorem dX7_parse_47 : decode cX7_parse 47 = .ok (.ifCond .ne 17, 3) := by decide +kernel
theorem dX7_parse_50 : decode cX7_parse 50 = .ok (.aload_n 0, 1) := by decide +kernel
theorem dX7_parse_51 : decode cX7_parse 51 = .ok (.invokevirtual 41, 3) := by decide +kernel
theorem dX7_parse_54 : decode cX7_parse 54 = .ok (.aload_n 0, 1) := by decide +kernel
theorem dX7_parse_55 : decode cX7_parse 55 = .ok (.invokevirtual 38, 3) := by decide +kernel
theorem dX7_parse_58 : decode cX7_parse 58 = .ok (.iinc 1 1, 3) := by decide +kernel
theorem dX7_parse_61 : decode cX7_parse 61 = .ok (.goto (-35), 3) := by decide +kernel
theorem dX7_parse_64 : decode cX7_parse 64 = .ok (.return_, 1) := by decide +kernel
theorem dX7_parseClause_0 : decode cX7_parseClause 0 = .ok (.aload_n 0, 1) := by decide +kernel
theorem dX7_parseClause_1 : decode cX7_parseClause 1 = .ok (.getfield 29, 3) := by decide +kernel
theorem dX7_parseClause_4 : decode cX7_parseClause 4 = .ok (.istore_n 1, 1) := by decide +kernel
theorem dX7_parseClause_5 : decode cX7_parseClause 5 = .ok (.aload_n 0, 1) := by decide +kernel
theorem dX7_parseClause_6 : decode cX7_parseClause 6 = .ok (.getfield 29, 3) := by decide +kernel
theorem dX7_parseClause_9 : decode cX7_parseClause 9 = .ok (.aload_n 0, 1) := by decide +kernel
theorem dX7_parseClause_10 : decode cX7_parseClause 10 = .ok (.getfield 26, 3) := by decide +kernel
theorem dX7_parseClause_13 : decode cX7_parseClause 13 = .ok (.if_icmp .ge 44, 3) := by decide +kernel
theorem dX7_parseClause_16 : decode cX7_parseClause 16 = .ok (.aload_n 0, 1) := by decide +kernel
theorem dX7_parseClause_17 : decode cX7_parseClause 17 = .ok (.getfield 9, 3) := by decide +kernel
theorem dX7_parseClause_20 : decode cX7_parseClause 20 = .ok (.aload_n 0, 1) := by decide +kernel
theorem dX7_parseClause_21 : decode cX7_parseClause 21 = .ok (.getfield 29, 3) := by decide +kernel
theorem dX7_parseClause_24 : decode cX7_parseClause 24 = .ok (.caload, 1) := by decide +kernel
theorem dX7_parseClause_25 : decode cX7_parseClause 25 = .ok (.bipush 97, 2) := by decide +kernel
theorem dX7_parseClause_27 : decode cX7_parseClause 27 = .ok (.if_icmp .lt 30, 3) := by decide +kernel
theorem dX7_parseClause_30 : decode cX7_parseClause 30 = .ok (.aload_n 0, 1) := by decide +kernel
theorem dX7_parseClause_31 : decode cX7_parseClause 31 = .ok (.getfield 9, 3) := by decide +kernel
theorem dX7_parseClause_34 : decode cX7_parseClause 34 = .ok (.aload_n 0, 1) := by decide +kernel
theorem dX7_parseClause_35 : decode cX7_parseClause 35 = .ok (.getfield 29, 3) := by decide +kernel
theorem dX7_parseClause_38 : decode cX7_parseClause 38 = .ok (.caload, 1) := by decide +kernel
theorem dX7_parseClause_39 : decode cX7_parseClause 39 = .ok (.bipush 122, 2) := by decide +kernel
theorem dX7_parseClause_41 : decode cX7_parseClause 41 = .ok (.if_icmp .gt 16, 3) := by decide +kernel
theorem dX7_parseClause_44 : decode cX7_parseClause 44 = .ok (.aload_n 0, 1) := by decide +kernel
theorem dX7_parseClause_45 : decode cX7_parseClause 45 = .ok (.dup, 1) := by decide +kernel
theorem dX7_parseClause_46 : decode cX7_parseClause 46 = .ok (.getfield 29, 3) := by decide +kernel
theorem dX7_parseClause_49 : decode cX7_parseClause 49 = .ok (.iconst 1, 1) := by decide +kernel
theorem dX7_parseClause_50 : decode cX7_parseClause 50 = .ok (.iadd, 1) := by decide +kernel
theorem dX7_parseClause_51 : decode cX7_parseClause 51 = .ok (.putfield 29, 3) := by decide +kernel
theorem dX7_parseClause_54 : decode cX7_parseClause 54 = .ok (.goto (-49), 3) := by decide +kernel
theorem dX7_parseClause_57 : decode cX7_parseClause 57 = .ok (.aload_n 0, 1) := by decide +kernel
theorem dX7_parseClause_58 : decode cX7_parseClause 58 = .ok (.iload_n 1, 1) := by decide +kernel
theorem dX7_parseClause_59 : decode cX7_parseClause 59 = .ok (.aload_n 0, 1) := by decide +kernel
theorem dX7_parseClause_60 : decode cX7_parseClause 60 = .ok (.getfield 29, 3) := by decide +kernel
theorem dX7_parseClause_63 : decode cX7_parseClause 63 = .ok (.invokevirtual 44, 3) := by decide +kernel
theorem dX7_parseClause_66 : decode cX7_parseClause 66 = .ok (.istore_n 2, 1) := by decide +kernel
theorem dX7_parseClause_67 : decode cX7_parseClause 67 = .ok (.iload_n 2, 1) := by decide +kernel
theorem dX7_parseClause_68 : decode cX7_parseClause 68 = .ok (.iconst (-1), 1) := by decide +kernel
theorem dX7_parseClause_69 : decode cX7_parseClause 69 = .ok (.if_icmp .ne 10, 3) := by decide +kernel
theorem dX7_parseClause_72 : decode cX7_parseClause 72 = .ok (.aload_n 0, 1) := by decide +kernel
theorem dX7_parseClause_73 : decode cX7_parseClause 73 = .ok (.iconst 1, 1) := by decide +kernel
theorem dX7_parseClause_74 : decode cX7_parseClause 74 = .ok (.iload_n 1, 1) := by decide +kernel
theorem dX7_parseClause_75 : decode cX7_parseClause 75 = .ok (.invokevirtual 48, 3) := by decide +kernel
theorem dX7_parseClause_78 : decode cX7_parseClause 78 = .ok (.return_, 1) := by decide +kernel
theorem dX7_parseClause_79 : decode cX7_parseClause 79 = .ok (.aload_n 0, 1) := by decide +kernel
theorem dX7_parseClause_80 : decode cX7_parseClause 80 = .ok (.getfield 32, 3) := by decide +kernel
theorem dX7_parseClause_83 : decode cX7_parseClause 83 = .ok (.bipush 40, 2) := by decide +kernel
theorem dX7_parseClause_85 : decode cX7_parseClause 85 = .ok (.if_icmp .lt 10, 3) := by decide +kernel
theorem dX7_parseClause_88 : decode cX7_parseClause 88 = .ok (.aload_n 0, 1) := by decide +kernel
theorem dX7_parseClause_89 : decode cX7_parseClause 89 = .ok (.iconst 3, 1) := by decide +kernel
theorem dX7_parseClause_90 : decode cX7_parseClause 90 = .ok (.iload_n 1, 1) := by decide +kernel
theorem dX7_parseClause_91 : decode cX7_parseClause 91 = .ok (.invokevirtual 48, 3) := by decide +kernel
theorem dX7_parseClause_94 : decode cX7_parseClause 94 = .ok (.return_, 1) := by decide +kernel
theorem dX7_parseClause_95 : decode cX7_parseClause 95 = .ok (.iconst 0, 1) := by decide +kernel
theorem dX7_parseClause_96 : decode cX7_parseClause 96 = .ok (.istore_n 3, 1) := by decide +kernel
theorem dX7_parseClause_97 : decode cX7_parseClause 97 = .ok (.iload_n 3, 1) := by decide +kernel
theorem dX7_parseClause_98 : decode cX7_parseClause 98 = .ok (.getstatic 52, 3) := by decide +kernel
theorem dX7_parseClause_101 : decode cX7_parseClause 101 = .ok (.iload_n 2, 1) := by decide +kernel
theorem dX7_parseClause_102 : decode cX7_parseClause 102 = .ok (.iaload, 1) := by decide +kernel
theorem dX7_parseClause_103 : decode cX7_parseClause 103 = .ok (.if_icmp .ge 21, 3) := by decide +kernel
theorem dX7_parseClause_106 : decode cX7_parseClause 106 = .ok (.aload_n 0, 1) := by decide +kernel
theorem dX7_parseClause_107 : decode cX7_parseClause 107 = .ok (.getfield 35, 3) := by decide +kernel
theorem dX7_parseClause_110 : decode cX7_parseClause 110 = .ok (.ifCond .ne 14, 3) := by decide +kernel
theorem dX7_parseClause_113 : decode cX7_parseClause 113 = .ok (.aload_n 0, 1) := by decide +kernel
theorem dX7_parseClause_114 : decode cX7_parseClause 114 = .ok (.iload_n 3, 1) := by decide +kernel
theorem dX7_parseClause_115 : decode cX7_parseClause 115 = .ok (.invokevirtual 55, 3) := by decide +kernel
theorem dX7_parseClause_118 : decode cX7_parseClause 118 = .ok (.iinc 3 1, 3) := by decide +kernel
theorem dX7_parseClause_121 : decode cX7_parseClause 121 = .ok (.goto (-24), 3) := by decide +kernel
theorem dX7_parseClause_124 : decode cX7_parseClause 124 = .ok (.aload_n 0, 1) := by decide +kernel
theorem dX7_parseClause_125 : decode cX7_parseClause 125 = .ok (.getfield 35, 3) := by decide +kernel
theorem dX7_parseClause_128 : decode cX7_parseClause 128 = .ok (.ifCond .ne 8, 3) := by decide +kernel
theorem dX7_parseClause_131 : decode cX7_parseClause 131 = .ok (.aload_n 0, 1) := by decide +kernel
theorem dX7_parseClause_132 : decode cX7_parseClause 132 = .ok (.iload_n 2, 1) := by decide +kernel
theorem dX7_parseClause_133 : decode cX7_parseClause 133 = .ok (.invokevirtual 59, 3) := by decide +kernel
theorem dX7_parseClause_136 : decode cX7_parseClause 136 = .ok (.return_, 1) := by decide +kernel
theorem dX7_parseNumber_0 : decode cX7_parseNumber 0 = .ok (.aload_n 0, 1) := by decide +kernel
theorem dX7_parseNumber_1 : decode cX7_parseNumber 1 = .ok (.invokevirtual 38, 3) := by decide +kernel
theorem dX7_parseNumber_4 : decode cX7_parseNumber 4 = .ok (.aload_n 0, 1) := by decide +kernel
theorem dX7_parseNumber_5 : decode cX7_parseNumber 5 = .ok (.getfield 29, 3) := by decide +kernel
theorem dX7_parseNumber_8 : decode cX7_parseNumber 8 = .ok (.istore_n 2, 1) := by decide +kernel
theorem dX7_parseNumber_9 : decode cX7_parseNumber 9 = .ok (.iconst 0, 1) := by decide +kernel
theorem dX7_parseNumber_10 : decode cX7_parseNumber 10 = .ok (.istore_n 3, 1) := by decide +kernel
theorem dX7_parseNumber_11 : decode cX7_parseNumber 11 = .ok (.aload_n 0, 1) := by decide +kernel
theorem dX7_parseNumber_12 : decode cX7_parseNumber 12 = .ok (.getfield 29, 3) := by decide +kernel
theorem dX7_parseNumber_15 : decode cX7_parseNumber 15 = .ok (.aload_n 0, 1) := by decide +kernel
theorem dX7_parseNumber_16 : decode cX7_parseNumber 16 = .ok (.getfield 26, 3) := by decide +kernel
theorem dX7_parseNumber_19 : decode cX7_parseNumber 19 = .ok (.if_icmp .ge 67, 3) := by decide +kernel
theorem dX7_parseNumber_22 : decode cX7_parseNumber 22 = .ok (.aload_n 0, 1) := by decide +kernel
theorem dX7_parseNumber_23 : decode cX7_parseNumber 23 = .ok (.getfield 9, 3) := by decide +kernel
theorem dX7_parseNumber_26 : decode cX7_parseNumber 26 = .ok (.aload_n 0, 1) := by decide +kernel
theorem dX7_parseNumber_27 : decode cX7_parseNumber 27 = .ok (.getfield 29, 3) := by decide +kernel
theorem dX7_parseNumber_30 : decode cX7_parseNumber 30 = .ok (.caload, 1) := by decide +kernel
theorem dX7_parseNumber_31 : decode cX7_parseNumber 31 = .ok (.bipush 48, 2) := by decide +kernel
theorem dX7_parseNumber_33 : decode cX7_parseNumber 33 = .ok (.if_icmp .lt 53, 3) := by decide +kernel
theorem dX7_parseNumber_36 : decode cX7_parseNumber 36 = .ok (.aload_n 0, 1) := by decide +kernel
theorem dX7_parseNumber_37 : decode cX7_parseNumber 37 = .ok (.getfield 9, 3) := by decide +kernel
theorem dX7_parseNumber_40 : decode cX7_parseNumber 40 = .ok (.aload_n 0, 1) := by decide +kernel
theorem dX7_parseNumber_41 : decode cX7_parseNumber 41 = .ok (.getfield 29, 3) := by decide +kernel
theorem dX7_parseNumber_44 : decode cX7_parseNumber 44 = .ok (.caload, 1) := by decide +kernel
theorem dX7_parseNumber_45 : decode cX7_parseNumber 45 = .ok (.bipush 57, 2) := by decide +kernel
theorem dX7_parseNumber_47 : decode cX7_parseNumber 47 = .ok (.if_icmp .gt 39, 3) := by decide +kernel
theorem dX7_parseNumber_50 : decode cX7_parseNumber 50 = .ok (.iload_n 3, 1) := by decide +kernel
theorem dX7_parseNumber_51 : decode cX7_parseNumber 51 = .ok (.bipush 10, 2) := by decide +kernel
theorem dX7_parseNumber_53 : decode cX7_parseNumber 53 = .ok (.imul, 1) := by decide +kernel
theorem dX7_parseNumber_54 : decode cX7_parseNumber 54 = .ok (.aload_n 0, 1) := by decide +kernel
theorem dX7_parseNumber_55 : decode cX7_parseNumber 55 = .ok (.getfield 9, 3) := by decide +kernel
theorem dX7_parseNumber_58 : decode cX7_parseNumber 58 = .ok (.aload_n 0, 1) := by decide +kernel
theorem dX7_parseNumber_59 : decode cX7_parseNumber 59 = .ok (.getfield 29, 3) := by decide +kernel
theorem dX7_parseNumber_62 : decode cX7_parseNumber 62 = .ok (.caload, 1) := by decide +kernel
theorem dX7_parseNumber_63 : decode cX7_parseNumber 63 = .ok (.iadd, 1) := by decide +kernel
theorem dX7_parseNumber_64 : decode cX7_parseNumber 64 = .ok (.bipush 48, 2) := by decide +kernel
theorem dX7_parseNumber_66 : decode cX7_parseNumber 66 = .ok (.isub, 1) := by decide +kernel
theorem dX7_parseNumber_67 : decode cX7_parseNumber 67 = .ok (.ldc 62, 2) := by decide +kernel
theorem dX7_parseNumber_69 : decode cX7_parseNumber 69 = .ok (.invokestatic 63, 3) := by decide +kernel
theorem dX7_parseNumber_72 : decode cX7_parseNumber 72 = .ok (.istore_n 3, 1) := by decide +kernel
theorem dX7_parseNumber_73 : decode cX7_parseNumber 73 = .ok (.aload_n 0, 1) := by decide +kernel
theorem dX7_parseNumber_74 : decode cX7_parseNumber 74 = .ok (.dup, 1) := by decide +kernel
theorem dX7_parseNumber_75 : decode cX7_parseNumber 75 = .ok (.getfield 29, 3) := by decide +kernel
theorem dX7_parseNumber_78 : decode cX7_parseNumber 78 = .ok (.iconst 1, 1) := by decide +kernel
theorem dX7_parseNumber_79 : decode cX7_parseNumber 79 = .ok (.iadd, 1) := by decide +kernel
theorem dX7_parseNumber_80 : decode cX7_parseNumber 80 = .ok (.putfield 29, 3) := by decide +kernel
theorem dX7_parseNumber_83 : decode cX7_parseNumber 83 = .ok (.goto (-72), 3) := by decide +kernel
theorem dX7_parseNumber_86 : decode cX7_parseNumber 86 = .ok (.aload_n 0, 1) := by decide +kernel
theorem dX7_parseNumber_87 : decode cX7_parseNumber 87 = .ok (.getfield 29, 3) := by decide +kernel
theorem dX7_parseNumber_90 : decode cX7_parseNumber 90 = .ok (.iload_n 2, 1) := by decide +kernel
theorem dX7_parseNumber_91 : decode cX7_parseNumber 91 = .ok (.if_icmp .ne 12, 3) := by decide +kernel
theorem dX7_parseNumber_94 : decode cX7_parseNumber 94 = .ok (.aload_n 0, 1) := by decide +kernel
theorem dX7_parseNumber_95 : decode cX7_parseNumber 95 = .ok (.iconst 1, 1) := by decide +kernel
theorem dX7_parseNumber_96 : decode cX7_parseNumber 96 = .ok (.iload_n 2, 1) := by decide +kernel
theorem dX7_parseNumber_97 : decode cX7_parseNumber 97 = .ok (.invokevirtual 48, 3) := by decide +kernel
theorem dX7_parseNumber_100 : decode cX7_parseNumber 100 = .ok (.goto 32, 3) := by decide +kernel
theorem dX7_parseNumber_103 : decode cX7_parseNumber 103 = .ok (.iload_n 3, 1) := by decide +kernel
theorem dX7_parseNumber_104 : decode cX7_parseNumber 104 = .ok (.ldc 68, 2) := by decide +kernel
theorem dX7_parseNumber_106 : decode cX7_parseNumber 106 = .ok (.if_icmp .le 12, 3) := by decide +kernel
theorem dX7_parseNumber_109 : decode cX7_parseNumber 109 = .ok (.aload_n 0, 1) := by decide +kernel
theorem dX7_parseNumber_110 : decode cX7_parseNumber 110 = .ok (.iconst 2, 1) := by decide +kernel
theorem dX7_parseNumber_111 : decode cX7_parseNumber 111 = .ok (.iload_n 2, 1) := by decide +kernel
theorem dX7_parseNumber_112 : decode cX7_parseNumber 112 = .ok (.invokevirtual 48, 3) := by decide +kernel
theorem dX7_parseNumber_115 : decode cX7_parseNumber 115 = .ok (.goto 17, 3) := by decide +kernel
theorem dX7_parseNumber_118 : decode cX7_parseNumber 118 = .ok (.aload_n 0, 1) := by decide +kernel
theorem dX7_parseNumber_119 : decode cX7_parseNumber 119 = .ok (.getfield 15, 3) := by decide +kernel
theorem dX7_parseNumber_122 : decode cX7_parseNumber 122 = .ok (.aload_n 0, 1) := by decide +kernel
theorem dX7_parseNumber_123 : decode cX7_parseNumber 123 = .ok (.getfield 32, 3) := by decide +kernel
theorem dX7_parseNumber_126 : decode cX7_parseNumber 126 = .ok (.iconst 3, 1) := by decide +kernel
theorem dX7_parseNumber_127 : decode cX7_parseNumber 127 = .ok (.imul, 1) := by decide +kernel
theorem dX7_parseNumber_128 : decode cX7_parseNumber 128 = .ok (.iload_n 1, 1) := by decide +kernel
theorem dX7_parseNumber_129 : decode cX7_parseNumber 129 = .ok (.iadd, 1) := by decide +kernel
theorem dX7_parseNumber_130 : decode cX7_parseNumber 130 = .ok (.iload_n 3, 1) := by decide +kernel
theorem dX7_parseNumber_131 : decode cX7_parseNumber 131 = .ok (.iastore, 1) := by decide +kernel
theorem dX7_parseNumber_132 : decode cX7_parseNumber 132 = .ok (.return_, 1) := by decide +kernel
theorem dX7_parseClauseEnd_0 : decode cX7_parseClauseEnd 0 = .ok (.aload_n 0, 1) := by decide +kernel
theorem dX7_parseClauseEnd_1 : decode cX7_parseClauseEnd 1 = .ok (.invokevirtual 38, 3) := by decide +kernel
theorem dX7_parseClauseEnd_4 : decode cX7_parseClauseEnd 4 = .ok (.aload_n 0, 1) := by decide +kernel
theorem dX7_parseClauseEnd_5 : decode cX7_parseClauseEnd 5 = .ok (.getfield 29, 3) := by decide +kernel
theorem dX7_parseClauseEnd_8 : decode cX7_parseClauseEnd 8 = .ok (.aload_n 0, 1) := by decide +kernel
theorem dX7_parseClauseEnd_9 : decode cX7_parseClauseEnd 9 = .ok (.getfield 26, 3) := by decide +kernel
theorem dX7_parseClauseEnd_12 : decode cX7_parseClauseEnd 12 = .ok (.if_icmp .ge 17, 3) := by decide +kernel
theorem dX7_parseClauseEnd_15 : decode cX7_parseClauseEnd 15 = .ok (.aload_n 0, 1) := by decide +kernel
theorem dX7_parseClauseEnd_16 : decode cX7_parseClauseEnd 16 = .ok (.getfield 9, 3) := by decide +kernel
theorem dX7_parseClauseEnd_19 : decode cX7_parseClauseEnd 19 = .ok (.aload_n 0, 1) := by decide +kernel
theorem dX7_parseClauseEnd_20 : decode cX7_parseClauseEnd 20 = .ok (.getfield 29, 3) := by decide +kernel
theorem dX7_parseClauseEnd_23 : decode cX7_parseClauseEnd 23 = .ok (.caload, 1) := by decide +kernel
theorem dX7_parseClauseEnd_24 : decode cX7_parseClauseEnd 24 = .ok (.bipush 59, 2) := by decide +kernel
theorem dX7_parseClauseEnd_26 : decode cX7_parseClauseEnd 26 = .ok (.if_icmp .eq 13, 3) := by decide +kernel
theorem dX7_parseClauseEnd_29 : decode cX7_parseClauseEnd 29 = .ok (.aload_n 0, 1) := by decide +kernel
theorem dX7_parseClauseEnd_30 : decode cX7_parseClauseEnd 30 = .ok (.iconst 1, 1) := by decide +kernel
theorem dX7_parseClauseEnd_31 : decode cX7_parseClauseEnd 31 = .ok (.aload_n 0, 1) := by decide +kernel
theorem dX7_parseClauseEnd_32 : decode cX7_parseClauseEnd 32 = .ok (.getfield 29, 3) := by decide +kernel
theorem dX7_parseClauseEnd_35 : decode cX7_parseClauseEnd 35 = .ok (.invokevirtual 48, 3) := by decide +kernel
theorem dX7_parseClauseEnd_38 : decode cX7_parseClauseEnd 38 = .ok (.return_, 1) := by decide +kernel
theorem dX7_parseClauseEnd_39 : decode cX7_parseClauseEnd 39 = .ok (.aload_n 0, 1) := by decide +kernel
theorem dX7_parseClauseEnd_40 : decode cX7_parseClauseEnd 40 = .ok (.dup, 1) := by decide +kernel
theorem dX7_parseClauseEnd_41 : decode cX7_parseClauseEnd 41 = .ok (.getfield 29, 3) := by decide +kernel
theorem dX7_parseClauseEnd_44 : decode cX7_parseClauseEnd 44 = .ok (.iconst 1, 1) := by decide +kernel
theorem dX7_parseClauseEnd_45 : decode cX7_parseClauseEnd 45 = .ok (.iadd, 1) := by decide +kernel
theorem dX7_parseClauseEnd_46 : decode cX7_parseClauseEnd 46 = .ok (.putfield 29, 3) := by decide +kernel
theorem dX7_parseClauseEnd_49 : decode cX7_parseClauseEnd 49 = .ok (.aload_n 0, 1) := by decide +kernel
theorem dX7_parseClauseEnd_50 : decode cX7_parseClauseEnd 50 = .ok (.getfield 19, 3) := by decide +kernel
theorem dX7_parseClauseEnd_53 : decode cX7_parseClauseEnd 53 = .ok (.aload_n 0, 1) := by decide +kernel
theorem dX7_parseClauseEnd_54 : decode cX7_parseClauseEnd 54 = .ok (.getfield 32, 3) := by decide +kernel
theorem dX7_parseClauseEnd_57 : decode cX7_parseClauseEnd 57 = .ok (.iload_n 1, 1) := by decide +kernel
theorem dX7_parseClauseEnd_58 : decode cX7_parseClauseEnd 58 = .ok (.iastore, 1) := by decide +kernel
theorem dX7_parseClauseEnd_59 : decode cX7_parseClauseEnd 59 = .ok (.aload_n 0, 1) := by decide +kernel
theorem dX7_parseClauseEnd_60 : decode cX7_parseClauseEnd 60 = .ok (.dup, 1) := by decide +kernel
theorem dX7_parseClauseEnd_61 : decode cX7_parseClauseEnd 61 = .ok (.getfield 32, 3) := by decide +kernel
theorem dX7_parseClauseEnd_64 : decode cX7_parseClauseEnd 64 = .ok (.iconst 1, 1) := by decide +kernel
theorem dX7_parseClauseEnd_65 : decode cX7_parseClauseEnd 65 = .ok (.iadd, 1) := by decide +kernel
theorem dX7_parseClauseEnd_66 : decode cX7_parseClauseEnd 66 = .ok (.putfield 32, 3) := by decide +kernel
theorem dX7_parseClauseEnd_69 : decode cX7_parseClauseEnd 69 = .ok (.return_, 1) := by decide +kernel
theorem dX7_verbOf_0 : decode cX7_verbOf 0 = .ok (.iconst 0, 1) := by decide +kernel
theorem dX7_verbOf_1 : decode cX7_verbOf 1 = .ok (.istore_n 3, 1) := by decide +kernel
theorem dX7_verbOf_2 : decode cX7_verbOf 2 = .ok (.iload_n 1, 1) := by decide +kernel
theorem dX7_verbOf_3 : decode cX7_verbOf 3 = .ok (.istore 4, 2) := by decide +kernel
theorem dX7_verbOf_5 : decode cX7_verbOf 5 = .ok (.iload_n 2, 1) := by decide +kernel
theorem dX7_verbOf_6 : decode cX7_verbOf 6 = .ok (.iload_n 1, 1) := by decide +kernel
theorem dX7_verbOf_7 : decode cX7_verbOf 7 = .ok (.if_icmp .le 7, 3) := by decide +kernel
theorem dX7_verbOf_10 : decode cX7_verbOf 10 = .ok (.iconst 1, 1) := by decide +kernel
theorem dX7_verbOf_11 : decode cX7_verbOf 11 = .ok (.goto 4, 3) := by decide +kernel
theorem dX7_verbOf_14 : decode cX7_verbOf 14 = .ok (.iconst 0, 1) := by decide +kernel
theorem dX7_verbOf_15 : decode cX7_verbOf 15 = .ok (.istore 5, 2) := by decide +kernel
theorem dX7_verbOf_17 : decode cX7_verbOf 17 = .ok (.iconst 0, 1) := by decide +kernel
theorem dX7_verbOf_18 : decode cX7_verbOf 18 = .ok (.istore 6, 2) := by decide +kernel
theorem dX7_verbOf_20 : decode cX7_verbOf 20 = .ok (.iload 6, 2) := by decide +kernel
theorem dX7_verbOf_22 : decode cX7_verbOf 22 = .ok (.ldc 69, 2) := by decide +kernel
theorem dX7_verbOf_24 : decode cX7_verbOf 24 = .ok (.invokevirtual 71, 3) := by decide +kernel
theorem dX7_verbOf_27 : decode cX7_verbOf 27 = .ok (.if_icmp .ge 86, 3) := by decide +kernel
theorem dX7_verbOf_30 : decode cX7_verbOf 30 = .ok (.ldc 69, 2) := by decide +kernel
theorem dX7_verbOf_32 : decode cX7_verbOf 32 = .ok (.iload 6, 2) := by decide +kernel
theorem dX7_verbOf_34 : decode cX7_verbOf 34 = .ok (.invokevirtual 76, 3) := by decide +kernel
theorem dX7_verbOf_37 : decode cX7_verbOf 37 = .ok (.istore 7, 2) := by decide +kernel
theorem dX7_verbOf_39 : decode cX7_verbOf 39 = .ok (.iload 7, 2) := by decide +kernel
theorem dX7_verbOf_41 : decode cX7_verbOf 41 = .ok (.bipush 32, 2) := by decide +kernel
theorem dX7_verbOf_43 : decode cX7_verbOf 43 = .ok (.if_icmp .ne 37, 3) := by decide +kernel
theorem dX7_verbOf_46 : decode cX7_verbOf 46 = .ok (.iload 5, 2) := by decide +kernel
theorem dX7_verbOf_48 : decode cX7_verbOf 48 = .ok (.ifCond .eq 11, 3) := by decide +kernel
theorem dX7_verbOf_51 : decode cX7_verbOf 51 = .ok (.iload 4, 2) := by decide +kernel
theorem dX7_verbOf_53 : decode cX7_verbOf 53 = .ok (.iload_n 2, 1) := by decide +kernel
theorem dX7_verbOf_54 : decode cX7_verbOf 54 = .ok (.if_icmp .ne 5, 3) := by decide +kernel
theorem dX7_verbOf_57 : decode cX7_verbOf 57 = .ok (.iload_n 3, 1) := by decide +kernel
theorem dX7_verbOf_58 : decode cX7_verbOf 58 = .ok (.ireturn, 1) := by decide +kernel
theorem dX7_verbOf_59 : decode cX7_verbOf 59 = .ok (.iinc 3 1, 3) := by decide +kernel
theorem dX7_verbOf_62 : decode cX7_verbOf 62 = .ok (.iload_n 1, 1) := by decide +kernel
theorem dX7_verbOf_63 : decode cX7_verbOf 63 = .ok (.istore 4, 2) := by decide +kernel
theorem dX7_verbOf_65 : decode cX7_verbOf 65 = .ok (.iload_n 2, 1) := by decide +kernel
theorem dX7_verbOf_66 : decode cX7_verbOf 66 = .ok (.iload_n 1, 1) := by decide +kernel
theorem dX7_verbOf_67 : decode cX7_verbOf 67 = .ok (.if_icmp .le 7, 3) := by decide +kernel
theorem dX7_verbOf_70 : decode cX7_verbOf 70 = .ok (.iconst 1, 1) := by decide +kernel
theorem dX7_verbOf_71 : decode cX7_verbOf 71 = .ok (.goto 4, 3) := by decide +kernel
theorem dX7_verbOf_74 : decode cX7_verbOf 74 = .ok (.iconst 0, 1) := by decide +kernel
theorem dX7_verbOf_75 : decode cX7_verbOf 75 = .ok (.istore 5, 2) := by decide +kernel
theorem dX7_verbOf_77 : decode cX7_verbOf 77 = .ok (.goto 30, 3) := by decide +kernel
theorem dX7_verbOf_80 : decode cX7_verbOf 80 = .ok (.iload 4, 2) := by decide +kernel
theorem dX7_verbOf_82 : decode cX7_verbOf 82 = .ok (.iload_n 2, 1) := by decide +kernel
theorem dX7_verbOf_83 : decode cX7_verbOf 83 = .ok (.if_icmp .ge 21, 3) := by decide +kernel
theorem dX7_verbOf_86 : decode cX7_verbOf 86 = .ok (.aload_n 0, 1) := by decide +kernel
theorem dX7_verbOf_87 : decode cX7_verbOf 87 = .ok (.getfield 9, 3) := by decide +kernel
theorem dX7_verbOf_90 : decode cX7_verbOf 90 = .ok (.iload 4, 2) := by decide +kernel
theorem dX7_verbOf_92 : decode cX7_verbOf 92 = .ok (.caload, 1) := by decide +kernel
theorem dX7_verbOf_93 : decode cX7_verbOf 93 = .ok (.iload 7, 2) := by decide +kernel
theorem dX7_verbOf_95 : decode cX7_verbOf 95 = .ok (.if_icmp .ne 9, 3) := by decide +kernel
theorem dX7_verbOf_98 : decode cX7_verbOf 98 = .ok (.iinc 4 1, 3) := by decide +kernel
theorem dX7_verbOf_101 : decode cX7_verbOf 101 = .ok (.goto 6, 3) := by decide +kernel
theorem dX7_verbOf_104 : decode cX7_verbOf 104 = .ok (.iconst 0, 1) := by decide +kernel
theorem dX7_verbOf_105 : decode cX7_verbOf 105 = .ok (.istore 5, 2) := by decide +kernel
theorem dX7_verbOf_107 : decode cX7_verbOf 107 = .ok (.iinc 6 1, 3) := by decide +kernel
theorem dX7_verbOf_110 : decode cX7_verbOf 110 = .ok (.goto (-90), 3) := by decide +kernel
theorem dX7_verbOf_113 : decode cX7_verbOf 113 = .ok (.iconst (-1), 1) := by decide +kernel
theorem dX7_verbOf_114 : decode cX7_verbOf 114 = .ok (.ireturn, 1) := by decide +kernel
theorem dX7_skipBlanks_0 : decode cX7_skipBlanks 0 = .ok (.aload_n 0, 1) := by decide +kernel
theorem dX7_skipBlanks_1 : decode cX7_skipBlanks 1 = .ok (.getfield 29, 3) := by decide +kernel
theorem dX7_skipBlanks_4 : decode cX7_skipBlanks 4 = .ok (.aload_n 0, 1) := by decide +kernel
theorem dX7_skipBlanks_5 : decode cX7_skipBlanks 5 = .ok (.getfield 26, 3) := by decide +kernel
theorem dX7_skipBlanks_8 : decode cX7_skipBlanks 8 = .ok (.if_icmp .ge 30, 3) := by decide +kernel
theorem dX7_skipBlanks_11 : decode cX7_skipBlanks 11 = .ok (.aload_n 0, 1) := by decide +kernel
theorem dX7_skipBlanks_12 : decode cX7_skipBlanks 12 = .ok (.getfield 9, 3) := by decide +kernel
theorem dX7_skipBlanks_15 : decode cX7_skipBlanks 15 = .ok (.aload_n 0, 1) := by decide +kernel
theorem dX7_skipBlanks_16 : decode cX7_skipBlanks 16 = .ok (.getfield 29, 3) := by decide +kernel
theorem dX7_skipBlanks_19 : decode cX7_skipBlanks 19 = .ok (.caload, 1) := by decide +kernel
theorem dX7_skipBlanks_20 : decode cX7_skipBlanks 20 = .ok (.bipush 32, 2) := by decide +kernel
theorem dX7_skipBlanks_22 : decode cX7_skipBlanks 22 = .ok (.if_icmp .ne 16, 3) := by decide +kernel
theorem dX7_skipBlanks_25 : decode cX7_skipBlanks 25 = .ok (.aload_n 0, 1) := by decide +kernel
theorem dX7_skipBlanks_26 : decode cX7_skipBlanks 26 = .ok (.dup, 1) := by decide +kernel
theorem dX7_skipBlanks_27 : decode cX7_skipBlanks 27 = .ok (.getfield 29, 3) := by decide +kernel
theorem dX7_skipBlanks_30 : decode cX7_skipBlanks 30 = .ok (.iconst 1, 1) := by decide +kernel
theorem dX7_skipBlanks_31 : decode cX7_skipBlanks 31 = .ok (.iadd, 1) := by decide +kernel
theorem dX7_skipBlanks_32 : decode cX7_skipBlanks 32 = .ok (.putfield 29, 3) := by decide +kernel
theorem dX7_skipBlanks_35 : decode cX7_skipBlanks 35 = .ok (.goto (-35), 3) := by decide +kernel
theorem dX7_skipBlanks_38 : decode cX7_skipBlanks 38 = .ok (.return_, 1) := by decide +kernel
theorem dX7_tell_0 : decode cX7_tell 0 = .ok (.aload_n 0, 1) := by decide +kernel
theorem dX7_tell_1 : decode cX7_tell 1 = .ok (.iload_n 1, 1) := by decide +kernel
theorem dX7_tell_2 : decode cX7_tell 2 = .ok (.putfield 35, 3) := by decide +kernel
theorem dX7_tell_5 : decode cX7_tell 5 = .ok (.aload_n 0, 1) := by decide +kernel
theorem dX7_tell_6 : decode cX7_tell 6 = .ok (.iload_n 2, 1) := by decide +kernel
theorem dX7_tell_7 : decode cX7_tell 7 = .ok (.putfield 22, 3) := by decide +kernel
theorem dX7_tell_10 : decode cX7_tell 10 = .ok (.return_, 1) := by decide +kernel
