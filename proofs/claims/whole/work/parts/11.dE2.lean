theorem dX11_goesOver_103 : decode cX11_goesOver 103 = .ok (.iastore, 1) := by decide +kernel
theorem dX11_goesOver_104 : decode cX11_goesOver 104 = .ok (.aload_n 0, 1) := by decide +kernel
theorem dX11_goesOver_105 : decode cX11_goesOver 105 = .ok (.getfield 7, 3) := by decide +kernel
theorem dX11_goesOver_108 : decode cX11_goesOver 108 = .ok (.iload_n 1, 1) := by decide +kernel
theorem dX11_goesOver_109 : decode cX11_goesOver 109 = .ok (.iconst 5, 1) := by decide +kernel
theorem dX11_goesOver_110 : decode cX11_goesOver 110 = .ok (.iadd, 1) := by decide +kernel
theorem dX11_goesOver_111 : decode cX11_goesOver 111 = .ok (.iload 6, 2) := by decide +kernel
theorem dX11_goesOver_113 : decode cX11_goesOver 113 = .ok (.iconst 1, 1) := by decide +kernel
theorem dX11_goesOver_114 : decode cX11_goesOver 114 = .ok (.iadd, 1) := by decide +kernel
theorem dX11_goesOver_115 : decode cX11_goesOver 115 = .ok (.iastore, 1) := by decide +kernel
theorem dX11_goesOver_116 : decode cX11_goesOver 116 = .ok (.iinc 4 1, 3) := by decide +kernel
theorem dX11_goesOver_119 : decode cX11_goesOver 119 = .ok (.iinc 6 1, 3) := by decide +kernel
theorem dX11_goesOver_122 : decode cX11_goesOver 122 = .ok (.goto (-105), 3) := by decide +kernel
theorem dX11_goesOver_125 : decode cX11_goesOver 125 = .ok (.aload_n 0, 1) := by decide +kernel
theorem dX11_goesOver_126 : decode cX11_goesOver 126 = .ok (.iload_n 3, 1) := by decide +kernel
theorem dX11_goesOver_127 : decode cX11_goesOver 127 = .ok (.ifCond .eq 8, 3) := by decide +kernel
theorem dX11_goesOver_130 : decode cX11_goesOver 130 = .ok (.bipush 14, 2) := by decide +kernel
theorem dX11_goesOver_132 : decode cX11_goesOver 132 = .ok (.goto 5, 3) := by decide +kernel
theorem dX11_goesOver_135 : decode cX11_goesOver 135 = .ok (.bipush 13, 2) := by decide +kernel
theorem dX11_goesOver_137 : decode cX11_goesOver 137 = .ok (.iload 4, 2) := by decide +kernel
theorem dX11_goesOver_139 : decode cX11_goesOver 139 = .ok (.invokevirtual 97, 3) := by decide +kernel
theorem dX11_goesOver_142 : decode cX11_goesOver 142 = .ok (.iload 4, 2) := by decide +kernel
theorem dX11_goesOver_144 : decode cX11_goesOver 144 = .ok (.ireturn, 1) := by decide +kernel
theorem dX11_catchesUp_0 : decode cX11_catchesUp 0 = .ok (.iload_n 2, 1) := by decide +kernel
theorem dX11_catchesUp_1 : decode cX11_catchesUp 1 = .ok (.aload_n 0, 1) := by decide +kernel
theorem dX11_catchesUp_2 : decode cX11_catchesUp 2 = .ok (.getfield 7, 3) := by decide +kernel
theorem dX11_catchesUp_5 : decode cX11_catchesUp 5 = .ok (.iload_n 1, 1) := by decide +kernel
theorem dX11_catchesUp_6 : decode cX11_catchesUp 6 = .ok (.bipush 6, 2) := by decide +kernel
theorem dX11_catchesUp_8 : decode cX11_catchesUp 8 = .ok (.iadd, 1) := by decide +kernel
theorem dX11_catchesUp_9 : decode cX11_catchesUp 9 = .ok (.iaload, 1) := by decide +kernel
theorem dX11_catchesUp_10 : decode cX11_catchesUp 10 = .ok (.if_icmp .ge 7, 3) := by decide +kernel
theorem dX11_catchesUp_13 : decode cX11_catchesUp 13 = .ok (.iload_n 2, 1) := by decide +kernel
theorem dX11_catchesUp_14 : decode cX11_catchesUp 14 = .ok (.goto 12, 3) := by decide +kernel
theorem dX11_catchesUp_17 : decode cX11_catchesUp 17 = .ok (.aload_n 0, 1) := by decide +kernel
theorem dX11_catchesUp_18 : decode cX11_catchesUp 18 = .ok (.getfield 7, 3) := by decide +kernel
theorem dX11_catchesUp_21 : decode cX11_catchesUp 21 = .ok (.iload_n 1, 1) := by decide +kernel
theorem dX11_catchesUp_22 : decode cX11_catchesUp 22 = .ok (.bipush 6, 2) := by decide +kernel
theorem dX11_catchesUp_24 : decode cX11_catchesUp 24 = .ok (.iadd, 1) := by decide +kernel
theorem dX11_catchesUp_25 : decode cX11_catchesUp 25 = .ok (.iaload, 1) := by decide +kernel
theorem dX11_catchesUp_26 : decode cX11_catchesUp 26 = .ok (.istore_n 3, 1) := by decide +kernel
theorem dX11_catchesUp_27 : decode cX11_catchesUp 27 = .ok (.iconst 0, 1) := by decide +kernel
theorem dX11_catchesUp_28 : decode cX11_catchesUp 28 = .ok (.istore 4, 2) := by decide +kernel
theorem dX11_catchesUp_30 : decode cX11_catchesUp 30 = .ok (.iload 4, 2) := by decide +kernel
theorem dX11_catchesUp_32 : decode cX11_catchesUp 32 = .ok (.iload_n 3, 1) := by decide +kernel
theorem dX11_catchesUp_33 : decode cX11_catchesUp 33 = .ok (.if_icmp .ge 59, 3) := by decide +kernel
theorem dX11_catchesUp_36 : decode cX11_catchesUp 36 = .ok (.aload_n 0, 1) := by decide +kernel
theorem dX11_catchesUp_37 : decode cX11_catchesUp 37 = .ok (.getfield 7, 3) := by decide +kernel
theorem dX11_catchesUp_40 : decode cX11_catchesUp 40 = .ok (.iload_n 1, 1) := by decide +kernel
theorem dX11_catchesUp_41 : decode cX11_catchesUp 41 = .ok (.bipush 12, 2) := by decide +kernel
theorem dX11_catchesUp_43 : decode cX11_catchesUp 43 = .ok (.iadd, 1) := by decide +kernel
theorem dX11_catchesUp_44 : decode cX11_catchesUp 44 = .ok (.iload 4, 2) := by decide +kernel
theorem dX11_catchesUp_46 : decode cX11_catchesUp 46 = .ok (.iadd, 1) := by decide +kernel
theorem dX11_catchesUp_47 : decode cX11_catchesUp 47 = .ok (.iaload, 1) := by decide +kernel
theorem dX11_catchesUp_48 : decode cX11_catchesUp 48 = .ok (.istore 5, 2) := by decide +kernel
theorem dX11_catchesUp_50 : decode cX11_catchesUp 50 = .ok (.aload_n 0, 1) := by decide +kernel
theorem dX11_catchesUp_51 : decode cX11_catchesUp 51 = .ok (.getfield 7, 3) := by decide +kernel
theorem dX11_catchesUp_54 : decode cX11_catchesUp 54 = .ok (.aload_n 0, 1) := by decide +kernel
theorem dX11_catchesUp_55 : decode cX11_catchesUp 55 = .ok (.getfield 7, 3) := by decide +kernel
theorem dX11_catchesUp_58 : decode cX11_catchesUp 58 = .ok (.iload_n 1, 1) := by decide +kernel
theorem dX11_catchesUp_59 : decode cX11_catchesUp 59 = .ok (.iconst 4, 1) := by decide +kernel
theorem dX11_catchesUp_60 : decode cX11_catchesUp 60 = .ok (.iadd, 1) := by decide +kernel
theorem dX11_catchesUp_61 : decode cX11_catchesUp 61 = .ok (.iaload, 1) := by decide +kernel
theorem dX11_catchesUp_62 : decode cX11_catchesUp 62 = .ok (.iload 5, 2) := by decide +kernel
theorem dX11_catchesUp_64 : decode cX11_catchesUp 64 = .ok (.invokestatic 136, 3) := by decide +kernel
theorem dX11_catchesUp_67 : decode cX11_catchesUp 67 = .ok (.aload_n 0, 1) := by decide +kernel
theorem dX11_catchesUp_68 : decode cX11_catchesUp 68 = .ok (.getfield 7, 3) := by decide +kernel
theorem dX11_catchesUp_71 : decode cX11_catchesUp 71 = .ok (.aload_n 0, 1) := by decide +kernel
theorem dX11_catchesUp_72 : decode cX11_catchesUp 72 = .ok (.getfield 7, 3) := by decide +kernel
theorem dX11_catchesUp_75 : decode cX11_catchesUp 75 = .ok (.iload_n 1, 1) := by decide +kernel
theorem dX11_catchesUp_76 : decode cX11_catchesUp 76 = .ok (.iconst 3, 1) := by decide +kernel
theorem dX11_catchesUp_77 : decode cX11_catchesUp 77 = .ok (.iadd, 1) := by decide +kernel
theorem dX11_catchesUp_78 : decode cX11_catchesUp 78 = .ok (.iaload, 1) := by decide +kernel
theorem dX11_catchesUp_79 : decode cX11_catchesUp 79 = .ok (.iload 5, 2) := by decide +kernel
theorem dX11_catchesUp_81 : decode cX11_catchesUp 81 = .ok (.invokestatic 136, 3) := by decide +kernel
theorem dX11_catchesUp_84 : decode cX11_catchesUp 84 = .ok (.iaload, 1) := by decide +kernel
theorem dX11_catchesUp_85 : decode cX11_catchesUp 85 = .ok (.iastore, 1) := by decide +kernel
theorem dX11_catchesUp_86 : decode cX11_catchesUp 86 = .ok (.iinc 4 1, 3) := by decide +kernel
theorem dX11_catchesUp_89 : decode cX11_catchesUp 89 = .ok (.goto (-59), 3) := by decide +kernel
theorem dX11_catchesUp_92 : decode cX11_catchesUp 92 = .ok (.iload_n 3, 1) := by decide +kernel
theorem dX11_catchesUp_93 : decode cX11_catchesUp 93 = .ok (.istore 4, 2) := by decide +kernel
theorem dX11_catchesUp_95 : decode cX11_catchesUp 95 = .ok (.iload 4, 2) := by decide +kernel
theorem dX11_catchesUp_97 : decode cX11_catchesUp 97 = .ok (.aload_n 0, 1) := by decide +kernel
theorem dX11_catchesUp_98 : decode cX11_catchesUp 98 = .ok (.getfield 7, 3) := by decide +kernel
theorem dX11_catchesUp_101 : decode cX11_catchesUp 101 = .ok (.iload_n 1, 1) := by decide +kernel
theorem dX11_catchesUp_102 : decode cX11_catchesUp 102 = .ok (.bipush 6, 2) := by decide +kernel
theorem dX11_catchesUp_104 : decode cX11_catchesUp 104 = .ok (.iadd, 1) := by decide +kernel
theorem dX11_catchesUp_105 : decode cX11_catchesUp 105 = .ok (.iaload, 1) := by decide +kernel
theorem dX11_catchesUp_106 : decode cX11_catchesUp 106 = .ok (.if_icmp .ge 35, 3) := by decide +kernel
theorem dX11_catchesUp_109 : decode cX11_catchesUp 109 = .ok (.aload_n 0, 1) := by decide +kernel
theorem dX11_catchesUp_110 : decode cX11_catchesUp 110 = .ok (.getfield 7, 3) := by decide +kernel
theorem dX11_catchesUp_113 : decode cX11_catchesUp 113 = .ok (.iload_n 1, 1) := by decide +kernel
theorem dX11_catchesUp_114 : decode cX11_catchesUp 114 = .ok (.bipush 12, 2) := by decide +kernel
theorem dX11_catchesUp_116 : decode cX11_catchesUp 116 = .ok (.iadd, 1) := by decide +kernel
theorem dX11_catchesUp_117 : decode cX11_catchesUp 117 = .ok (.iload 4, 2) := by decide +kernel
theorem dX11_catchesUp_119 : decode cX11_catchesUp 119 = .ok (.iadd, 1) := by decide +kernel
theorem dX11_catchesUp_120 : decode cX11_catchesUp 120 = .ok (.iload_n 3, 1) := by decide +kernel
theorem dX11_catchesUp_121 : decode cX11_catchesUp 121 = .ok (.isub, 1) := by decide +kernel
theorem dX11_catchesUp_122 : decode cX11_catchesUp 122 = .ok (.aload_n 0, 1) := by decide +kernel
theorem dX11_catchesUp_123 : decode cX11_catchesUp 123 = .ok (.getfield 7, 3) := by decide +kernel
theorem dX11_catchesUp_126 : decode cX11_catchesUp 126 = .ok (.iload_n 1, 1) := by decide +kernel
theorem dX11_catchesUp_127 : decode cX11_catchesUp 127 = .ok (.bipush 12, 2) := by decide +kernel
theorem dX11_catchesUp_129 : decode cX11_catchesUp 129 = .ok (.iadd, 1) := by decide +kernel
theorem dX11_catchesUp_130 : decode cX11_catchesUp 130 = .ok (.iload 4, 2) := by decide +kernel
theorem dX11_catchesUp_132 : decode cX11_catchesUp 132 = .ok (.iadd, 1) := by decide +kernel
theorem dX11_catchesUp_133 : decode cX11_catchesUp 133 = .ok (.iaload, 1) := by decide +kernel
theorem dX11_catchesUp_134 : decode cX11_catchesUp 134 = .ok (.iastore, 1) := by decide +kernel
theorem dX11_catchesUp_135 : decode cX11_catchesUp 135 = .ok (.iinc 4 1, 3) := by decide +kernel
theorem dX11_catchesUp_138 : decode cX11_catchesUp 138 = .ok (.goto (-43), 3) := by decide +kernel
theorem dX11_catchesUp_141 : decode cX11_catchesUp 141 = .ok (.aload_n 0, 1) := by decide +kernel
theorem dX11_catchesUp_142 : decode cX11_catchesUp 142 = .ok (.getfield 7, 3) := by decide +kernel
theorem dX11_catchesUp_145 : decode cX11_catchesUp 145 = .ok (.iload_n 1, 1) := by decide +kernel
theorem dX11_catchesUp_146 : decode cX11_catchesUp 146 = .ok (.bipush 6, 2) := by decide +kernel
theorem dX11_catchesUp_148 : decode cX11_catchesUp 148 = .ok (.iadd, 1) := by decide +kernel
theorem dX11_catchesUp_149 : decode cX11_catchesUp 149 = .ok (.dup2, 1) := by decide +kernel
theorem dX11_catchesUp_150 : decode cX11_catchesUp 150 = .ok (.iaload, 1) := by decide +kernel
theorem dX11_catchesUp_151 : decode cX11_catchesUp 151 = .ok (.iload_n 3, 1) := by decide +kernel
theorem dX11_catchesUp_152 : decode cX11_catchesUp 152 = .ok (.isub, 1) := by decide +kernel
theorem dX11_catchesUp_153 : decode cX11_catchesUp 153 = .ok (.iastore, 1) := by decide +kernel
theorem dX11_catchesUp_154 : decode cX11_catchesUp 154 = .ok (.aload_n 0, 1) := by decide +kernel
theorem dX11_catchesUp_155 : decode cX11_catchesUp 155 = .ok (.bipush 13, 2) := by decide +kernel
theorem dX11_catchesUp_157 : decode cX11_catchesUp 157 = .ok (.iload_n 3, 1) := by decide +kernel
theorem dX11_catchesUp_158 : decode cX11_catchesUp 158 = .ok (.invokevirtual 97, 3) := by decide +kernel
theorem dX11_catchesUp_161 : decode cX11_catchesUp 161 = .ok (.return_, 1) := by decide +kernel
theorem dX11_switches_0 : decode cX11_switches 0 = .ok (.aload_n 0, 1) := by decide +kernel
theorem dX11_switches_1 : decode cX11_switches 1 = .ok (.aload_n 0, 1) := by decide +kernel
theorem dX11_switches_2 : decode cX11_switches 2 = .ok (.getfield 7, 3) := by decide +kernel
theorem dX11_switches_5 : decode cX11_switches 5 = .ok (.iload_n 1, 1) := by decide +kernel
theorem dX11_switches_6 : decode cX11_switches 6 = .ok (.iconst 1, 1) := by decide +kernel
theorem dX11_switches_7 : decode cX11_switches 7 = .ok (.iadd, 1) := by decide +kernel
theorem dX11_switches_8 : decode cX11_switches 8 = .ok (.iaload, 1) := by decide +kernel
theorem dX11_switches_9 : decode cX11_switches 9 = .ok (.invokevirtual 58, 3) := by decide +kernel
theorem dX11_switches_12 : decode cX11_switches 12 = .ok (.istore_n 2, 1) := by decide +kernel
theorem dX11_switches_13 : decode cX11_switches 13 = .ok (.aload_n 0, 1) := by decide +kernel
theorem dX11_switches_14 : decode cX11_switches 14 = .ok (.getfield 7, 3) := by decide +kernel
theorem dX11_switches_17 : decode cX11_switches 17 = .ok (.iconst 0, 1) := by decide +kernel
theorem dX11_switches_18 : decode cX11_switches 18 = .ok (.dup2, 1) := by decide +kernel
theorem dX11_switches_19 : decode cX11_switches 19 = .ok (.iaload, 1) := by decide +kernel
theorem dX11_switches_20 : decode cX11_switches 20 = .ok (.iconst 1, 1) := by decide +kernel
theorem dX11_switches_21 : decode cX11_switches 21 = .ok (.iadd, 1) := by decide +kernel
theorem dX11_switches_22 : decode cX11_switches 22 = .ok (.iastore, 1) := by decide +kernel
theorem dX11_switches_23 : decode cX11_switches 23 = .ok (.aload_n 0, 1) := by decide +kernel
theorem dX11_switches_24 : decode cX11_switches 24 = .ok (.getfield 7, 3) := by decide +kernel
theorem dX11_switches_27 : decode cX11_switches 27 = .ok (.bipush 42, 2) := by decide +kernel
theorem dX11_switches_29 : decode cX11_switches 29 = .ok (.iload_n 2, 1) := by decide +kernel
theorem dX11_switches_30 : decode cX11_switches 30 = .ok (.iadd, 1) := by decide +kernel
theorem dX11_switches_31 : decode cX11_switches 31 = .ok (.aload_n 0, 1) := by decide +kernel
theorem dX11_switches_32 : decode cX11_switches 32 = .ok (.getfield 7, 3) := by decide +kernel
theorem dX11_switches_35 : decode cX11_switches 35 = .ok (.iload_n 1, 1) := by decide +kernel
theorem dX11_switches_36 : decode cX11_switches 36 = .ok (.iconst 4, 1) := by decide +kernel
theorem dX11_switches_37 : decode cX11_switches 37 = .ok (.iadd, 1) := by decide +kernel
theorem dX11_switches_38 : decode cX11_switches 38 = .ok (.iaload, 1) := by decide +kernel
theorem dX11_switches_39 : decode cX11_switches 39 = .ok (.iastore, 1) := by decide +kernel
theorem dX11_switches_40 : decode cX11_switches 40 = .ok (.aload_n 0, 1) := by decide +kernel
theorem dX11_switches_41 : decode cX11_switches 41 = .ok (.getfield 7, 3) := by decide +kernel
theorem dX11_switches_44 : decode cX11_switches 44 = .ok (.bipush 74, 2) := by decide +kernel
theorem dX11_switches_46 : decode cX11_switches 46 = .ok (.iload_n 2, 1) := by decide +kernel
theorem dX11_switches_47 : decode cX11_switches 47 = .ok (.iadd, 1) := by decide +kernel
theorem dX11_switches_48 : decode cX11_switches 48 = .ok (.aload_n 0, 1) := by decide +kernel
theorem dX11_switches_49 : decode cX11_switches 49 = .ok (.getfield 7, 3) := by decide +kernel
theorem dX11_switches_52 : decode cX11_switches 52 = .ok (.iconst 0, 1) := by decide +kernel
theorem dX11_switches_53 : decode cX11_switches 53 = .ok (.iaload, 1) := by decide +kernel
theorem dX11_switches_54 : decode cX11_switches 54 = .ok (.iastore, 1) := by decide +kernel
theorem dX11_switches_55 : decode cX11_switches 55 = .ok (.aload_n 0, 1) := by decide +kernel
theorem dX11_switches_56 : decode cX11_switches 56 = .ok (.getfield 7, 3) := by decide +kernel
theorem dX11_switches_59 : decode cX11_switches 59 = .ok (.iload_n 1, 1) := by decide +kernel
theorem dX11_switches_60 : decode cX11_switches 60 = .ok (.bipush 11, 2) := by decide +kernel
theorem dX11_switches_62 : decode cX11_switches 62 = .ok (.iadd, 1) := by decide +kernel
theorem dX11_switches_63 : decode cX11_switches 63 = .ok (.aload_n 0, 1) := by decide +kernel
theorem dX11_switches_64 : decode cX11_switches 64 = .ok (.getfield 7, 3) := by decide +kernel
theorem dX11_switches_67 : decode cX11_switches 67 = .ok (.iconst 0, 1) := by decide +kernel
theorem dX11_switches_68 : decode cX11_switches 68 = .ok (.iaload, 1) := by decide +kernel
theorem dX11_switches_69 : decode cX11_switches 69 = .ok (.iastore, 1) := by decide +kernel
theorem dX11_switches_70 : decode cX11_switches 70 = .ok (.aload_n 0, 1) := by decide +kernel
theorem dX11_switches_71 : decode cX11_switches 71 = .ok (.getfield 7, 3) := by decide +kernel
theorem dX11_switches_74 : decode cX11_switches 74 = .ok (.iload_n 1, 1) := by decide +kernel
theorem dX11_switches_75 : decode cX11_switches 75 = .ok (.iconst 0, 1) := by decide +kernel
theorem dX11_switches_76 : decode cX11_switches 76 = .ok (.iadd, 1) := by decide +kernel
theorem dX11_switches_77 : decode cX11_switches 77 = .ok (.iconst 4, 1) := by decide +kernel
theorem dX11_switches_78 : decode cX11_switches 78 = .ok (.iastore, 1) := by decide +kernel
theorem dX11_switches_79 : decode cX11_switches 79 = .ok (.aload_n 0, 1) := by decide +kernel
theorem dX11_switches_80 : decode cX11_switches 80 = .ok (.getfield 7, 3) := by decide +kernel
theorem dX11_switches_83 : decode cX11_switches 83 = .ok (.iload_n 1, 1) := by decide +kernel
theorem dX11_switches_84 : decode cX11_switches 84 = .ok (.iconst 5, 1) := by decide +kernel
theorem dX11_switches_85 : decode cX11_switches 85 = .ok (.iadd, 1) := by decide +kernel
theorem dX11_switches_86 : decode cX11_switches 86 = .ok (.aload_n 0, 1) := by decide +kernel
theorem dX11_switches_87 : decode cX11_switches 87 = .ok (.getfield 7, 3) := by decide +kernel
theorem dX11_switches_90 : decode cX11_switches 90 = .ok (.iload_n 1, 1) := by decide +kernel
theorem dX11_switches_91 : decode cX11_switches 91 = .ok (.iconst 1, 1) := by decide +kernel
theorem dX11_switches_92 : decode cX11_switches 92 = .ok (.iadd, 1) := by decide +kernel
theorem dX11_switches_93 : decode cX11_switches 93 = .ok (.iaload, 1) := by decide +kernel
theorem dX11_switches_94 : decode cX11_switches 94 = .ok (.iastore, 1) := by decide +kernel
theorem dX11_switches_95 : decode cX11_switches 95 = .ok (.aload_n 0, 1) := by decide +kernel
theorem dX11_switches_96 : decode cX11_switches 96 = .ok (.iconst 3, 1) := by decide +kernel
theorem dX11_switches_97 : decode cX11_switches 97 = .ok (.aload_n 0, 1) := by decide +kernel
theorem dX11_switches_98 : decode cX11_switches 98 = .ok (.getfield 7, 3) := by decide +kernel
theorem dX11_switches_101 : decode cX11_switches 101 = .ok (.iload_n 1, 1) := by decide +kernel
theorem dX11_switches_102 : decode cX11_switches 102 = .ok (.iconst 1, 1) := by decide +kernel
theorem dX11_switches_103 : decode cX11_switches 103 = .ok (.iadd, 1) := by decide +kernel
theorem dX11_switches_104 : decode cX11_switches 104 = .ok (.iaload, 1) := by decide +kernel
theorem dX11_switches_105 : decode cX11_switches 105 = .ok (.aload_n 0, 1) := by decide +kernel
theorem dX11_switches_106 : decode cX11_switches 106 = .ok (.getfield 7, 3) := by decide +kernel
theorem dX11_switches_109 : decode cX11_switches 109 = .ok (.iload_n 1, 1) := by decide +kernel
theorem dX11_switches_110 : decode cX11_switches 110 = .ok (.iconst 4, 1) := by decide +kernel
theorem dX11_switches_111 : decode cX11_switches 111 = .ok (.iadd, 1) := by decide +kernel
theorem dX11_switches_112 : decode cX11_switches 112 = .ok (.iaload, 1) := by decide +kernel
theorem dX11_switches_113 : decode cX11_switches 113 = .ok (.invokevirtual 93, 3) := by decide +kernel
theorem dX11_switches_116 : decode cX11_switches 116 = .ok (.return_, 1) := by decide +kernel
theorem dX11_goesOn_0 : decode cX11_goesOn 0 = .ok (.aload_n 0, 1) := by decide +kernel
theorem dX11_goesOn_1 : decode cX11_goesOn 1 = .ok (.iload_n 1, 1) := by decide +kernel
theorem dX11_goesOn_2 : decode cX11_goesOn 2 = .ok (.iload_n 2, 1) := by decide +kernel
theorem dX11_goesOn_3 : decode cX11_goesOn 3 = .ok (.iload_n 3, 1) := by decide +kernel
theorem dX11_goesOn_4 : decode cX11_goesOn 4 = .ok (.invokevirtual 168, 3) := by decide +kernel
theorem dX11_goesOn_7 : decode cX11_goesOn 7 = .ok (.iload_n 2, 1) := by decide +kernel
theorem dX11_goesOn_8 : decode cX11_goesOn 8 = .ok (.if_icmp .ne 4, 3) := by decide +kernel
theorem dX11_goesOn_11 : decode cX11_goesOn 11 = .ok (.return_, 1) := by decide +kernel
theorem dX11_goesOn_12 : decode cX11_goesOn 12 = .ok (.aload_n 0, 1) := by decide +kernel
theorem dX11_goesOn_13 : decode cX11_goesOn 13 = .ok (.getfield 7, 3) := by decide +kernel
theorem dX11_goesOn_16 : decode cX11_goesOn 16 = .ok (.iload_n 1, 1) := by decide +kernel
theorem dX11_goesOn_17 : decode cX11_goesOn 17 = .ok (.iconst 0, 1) := by decide +kernel
theorem dX11_goesOn_18 : decode cX11_goesOn 18 = .ok (.iadd, 1) := by decide +kernel
theorem dX11_goesOn_19 : decode cX11_goesOn 19 = .ok (.iload_n 3, 1) := by decide +kernel
theorem dX11_goesOn_20 : decode cX11_goesOn 20 = .ok (.ifCond .eq 7, 3) := by decide +kernel
theorem dX11_goesOn_23 : decode cX11_goesOn 23 = .ok (.iconst 5, 1) := by decide +kernel
theorem dX11_goesOn_24 : decode cX11_goesOn 24 = .ok (.goto 4, 3) := by decide +kernel
theorem dX11_goesOn_27 : decode cX11_goesOn 27 = .ok (.iconst 2, 1) := by decide +kernel
theorem dX11_goesOn_28 : decode cX11_goesOn 28 = .ok (.iastore, 1) := by decide +kernel
theorem dX11_goesOn_29 : decode cX11_goesOn 29 = .ok (.aload_n 0, 1) := by decide +kernel
theorem dX11_goesOn_30 : decode cX11_goesOn 30 = .ok (.getfield 7, 3) := by decide +kernel
theorem dX11_goesOn_33 : decode cX11_goesOn 33 = .ok (.iload_n 1, 1) := by decide +kernel
theorem dX11_goesOn_34 : decode cX11_goesOn 34 = .ok (.iconst 5, 1) := by decide +kernel
theorem dX11_goesOn_35 : decode cX11_goesOn 35 = .ok (.iadd, 1) := by decide +kernel
theorem dX11_goesOn_36 : decode cX11_goesOn 36 = .ok (.aload_n 0, 1) := by decide +kernel
theorem dX11_goesOn_37 : decode cX11_goesOn 37 = .ok (.getfield 7, 3) := by decide +kernel
theorem dX11_goesOn_40 : decode cX11_goesOn 40 = .ok (.iload_n 1, 1) := by decide +kernel
theorem dX11_goesOn_41 : decode cX11_goesOn 41 = .ok (.iconst 2, 1) := by decide +kernel
theorem dX11_goesOn_42 : decode cX11_goesOn 42 = .ok (.iadd, 1) := by decide +kernel
theorem dX11_goesOn_43 : decode cX11_goesOn 43 = .ok (.iaload, 1) := by decide +kernel
theorem dX11_goesOn_44 : decode cX11_goesOn 44 = .ok (.iastore, 1) := by decide +kernel
theorem dX11_goesOn_45 : decode cX11_goesOn 45 = .ok (.iload_n 3, 1) := by decide +kernel
theorem dX11_goesOn_46 : decode cX11_goesOn 46 = .ok (.ifCond .eq 10, 3) := by decide +kernel
theorem dX11_goesOn_49 : decode cX11_goesOn 49 = .ok (.aload_n 0, 1) := by decide +kernel
theorem dX11_goesOn_50 : decode cX11_goesOn 50 = .ok (.bipush 9, 2) := by decide +kernel
theorem dX11_goesOn_52 : decode cX11_goesOn 52 = .ok (.iconst 1, 1) := by decide +kernel
theorem dX11_goesOn_53 : decode cX11_goesOn 53 = .ok (.invokevirtual 97, 3) := by decide +kernel
theorem dX11_goesOn_56 : decode cX11_goesOn 56 = .ok (.return_, 1) := by decide +kernel
theorem dX11_steps_0 : decode cX11_steps 0 = .ok (.aload_n 0, 1) := by decide +kernel
theorem dX11_steps_1 : decode cX11_steps 1 = .ok (.getfield 7, 3) := by decide +kernel
theorem dX11_steps_4 : decode cX11_steps 4 = .ok (.iconst 2, 1) := by decide +kernel
theorem dX11_steps_5 : decode cX11_steps 5 = .ok (.iaload, 1) := by decide +kernel
theorem dX11_steps_6 : decode cX11_steps 6 = .ok (.istore_n 2, 1) := by decide +kernel
theorem dX11_steps_7 : decode cX11_steps 7 = .ok (.aload_n 0, 1) := by decide +kernel
theorem dX11_steps_8 : decode cX11_steps 8 = .ok (.getfield 7, 3) := by decide +kernel
theorem dX11_steps_11 : decode cX11_steps 11 = .ok (.iload_n 1, 1) := by decide +kernel
theorem dX11_steps_12 : decode cX11_steps 12 = .ok (.iconst 0, 1) := by decide +kernel
theorem dX11_steps_13 : decode cX11_steps 13 = .ok (.iadd, 1) := by decide +kernel
theorem dX11_steps_14 : decode cX11_steps 14 = .ok (.iaload, 1) := by decide +kernel
theorem dX11_steps_15 : decode cX11_steps 15 = .ok (.tableswitch 73 1 3 #[25, 35, 65], 25) := by decide +kernel
theorem dX11_steps_40 : decode cX11_steps 40 = .ok (.aload_n 0, 1) := by decide +kernel
theorem dX11_steps_41 : decode cX11_steps 41 = .ok (.iload_n 1, 1) := by decide +kernel
theorem dX11_steps_42 : decode cX11_steps 42 = .ok (.iload_n 2, 1) := by decide +kernel
theorem dX11_steps_43 : decode cX11_steps 43 = .ok (.iconst 0, 1) := by decide +kernel
theorem dX11_steps_44 : decode cX11_steps 44 = .ok (.invokevirtual 172, 3) := by decide +kernel
theorem dX11_steps_47 : decode cX11_steps 47 = .ok (.goto 48, 3) := by decide +kernel
theorem dX11_steps_50 : decode cX11_steps 50 = .ok (.aload_n 0, 1) := by decide +kernel
theorem dX11_steps_51 : decode cX11_steps 51 = .ok (.iload_n 1, 1) := by decide +kernel
theorem dX11_steps_52 : decode cX11_steps 52 = .ok (.iload_n 2, 1) := by decide +kernel
theorem dX11_steps_53 : decode cX11_steps 53 = .ok (.invokevirtual 176, 3) := by decide +kernel
theorem dX11_steps_56 : decode cX11_steps 56 = .ok (.aload_n 0, 1) := by decide +kernel
theorem dX11_steps_57 : decode cX11_steps 57 = .ok (.getfield 7, 3) := by decide +kernel
theorem dX11_steps_60 : decode cX11_steps 60 = .ok (.iload_n 1, 1) := by decide +kernel
theorem dX11_steps_61 : decode cX11_steps 61 = .ok (.bipush 6, 2) := by decide +kernel
theorem dX11_steps_63 : decode cX11_steps 63 = .ok (.iadd, 1) := by decide +kernel
theorem dX11_steps_64 : decode cX11_steps 64 = .ok (.iaload, 1) := by decide +kernel
theorem dX11_steps_65 : decode cX11_steps 65 = .ok (.ifCond .ne 30, 3) := by decide +kernel
theorem dX11_steps_68 : decode cX11_steps 68 = .ok (.aload_n 0, 1) := by decide +kernel
theorem dX11_steps_69 : decode cX11_steps 69 = .ok (.getfield 7, 3) := by decide +kernel
theorem dX11_steps_72 : decode cX11_steps 72 = .ok (.iload_n 1, 1) := by decide +kernel
theorem dX11_steps_73 : decode cX11_steps 73 = .ok (.iconst 0, 1) := by decide +kernel
theorem dX11_steps_74 : decode cX11_steps 74 = .ok (.iadd, 1) := by decide +kernel
theorem dX11_steps_75 : decode cX11_steps 75 = .ok (.iconst 3, 1) := by decide +kernel
theorem dX11_steps_76 : decode cX11_steps 76 = .ok (.iastore, 1) := by decide +kernel
theorem dX11_steps_77 : decode cX11_steps 77 = .ok (.goto 18, 3) := by decide +kernel
theorem dX11_steps_80 : decode cX11_steps 80 = .ok (.aload_n 0, 1) := by decide +kernel
theorem dX11_steps_81 : decode cX11_steps 81 = .ok (.iload_n 1, 1) := by decide +kernel
theorem dX11_steps_82 : decode cX11_steps 82 = .ok (.invokevirtual 179, 3) := by decide +kernel
theorem dX11_steps_85 : decode cX11_steps 85 = .ok (.goto 10, 3) := by decide +kernel
theorem dX11_steps_88 : decode cX11_steps 88 = .ok (.aload_n 0, 1) := by decide +kernel
theorem dX11_steps_89 : decode cX11_steps 89 = .ok (.iload_n 1, 1) := by decide +kernel
theorem dX11_steps_90 : decode cX11_steps 90 = .ok (.iload_n 2, 1) := by decide +kernel
theorem dX11_steps_91 : decode cX11_steps 91 = .ok (.iconst 1, 1) := by decide +kernel
theorem dX11_steps_92 : decode cX11_steps 92 = .ok (.invokevirtual 172, 3) := by decide +kernel
theorem dX11_steps_95 : decode cX11_steps 95 = .ok (.return_, 1) := by decide +kernel
theorem dX11_fails_0 : decode cX11_fails 0 = .ok (.aload_n 0, 1) := by decide +kernel
theorem dX11_fails_1 : decode cX11_fails 1 = .ok (.getfield 7, 3) := by decide +kernel
theorem dX11_fails_4 : decode cX11_fails 4 = .ok (.iconst 2, 1) := by decide +kernel
theorem dX11_fails_5 : decode cX11_fails 5 = .ok (.iaload, 1) := by decide +kernel
theorem dX11_fails_6 : decode cX11_fails 6 = .ok (.iconst 2, 1) := by decide +kernel
theorem dX11_fails_7 : decode cX11_fails 7 = .ok (.idiv, 1) := by decide +kernel
theorem dX11_fails_8 : decode cX11_fails 8 = .ok (.istore_n 2, 1) := by decide +kernel
theorem dX11_fails_9 : decode cX11_fails 9 = .ok (.aload_n 0, 1) := by decide +kernel
theorem dX11_fails_10 : decode cX11_fails 10 = .ok (.getfield 7, 3) := by decide +kernel
theorem dX11_fails_13 : decode cX11_fails 13 = .ok (.iload_n 1, 1) := by decide +kernel
theorem dX11_fails_14 : decode cX11_fails 14 = .ok (.iconst 0, 1) := by decide +kernel
theorem dX11_fails_15 : decode cX11_fails 15 = .ok (.iadd, 1) := by decide +kernel
theorem dX11_fails_16 : decode cX11_fails 16 = .ok (.iaload, 1) := by decide +kernel
theorem dX11_fails_17 : decode cX11_fails 17 = .ok (.istore_n 3, 1) := by decide +kernel
theorem dX11_fails_18 : decode cX11_fails 18 = .ok (.aload_n 0, 1) := by decide +kernel
theorem dX11_fails_19 : decode cX11_fails 19 = .ok (.getfield 7, 3) := by decide +kernel
theorem dX11_fails_22 : decode cX11_fails 22 = .ok (.iload_n 1, 1) := by decide +kernel
theorem dX11_fails_23 : decode cX11_fails 23 = .ok (.bipush 8, 2) := by decide +kernel
theorem dX11_fails_25 : decode cX11_fails 25 = .ok (.iadd, 1) := by decide +kernel
theorem dX11_fails_26 : decode cX11_fails 26 = .ok (.iconst 3, 1) := by decide +kernel
theorem dX11_fails_27 : decode cX11_fails 27 = .ok (.iastore, 1) := by decide +kernel
theorem dX11_fails_28 : decode cX11_fails 28 = .ok (.aload_n 0, 1) := by decide +kernel
theorem dX11_fails_29 : decode cX11_fails 29 = .ok (.bipush 12, 2) := by decide +kernel
theorem dX11_fails_31 : decode cX11_fails 31 = .ok (.iconst 1, 1) := by decide +kernel
theorem dX11_fails_32 : decode cX11_fails 32 = .ok (.invokevirtual 97, 3) := by decide +kernel
theorem dX11_fails_35 : decode cX11_fails 35 = .ok (.iload_n 3, 1) := by decide +kernel
theorem dX11_fails_36 : decode cX11_fails 36 = .ok (.iconst 2, 1) := by decide +kernel
theorem dX11_fails_37 : decode cX11_fails 37 = .ok (.if_icmp .ne 9, 3) := by decide +kernel
theorem dX11_fails_40 : decode cX11_fails 40 = .ok (.aload_n 0, 1) := by decide +kernel
theorem dX11_fails_41 : decode cX11_fails 41 = .ok (.iload_n 1, 1) := by decide +kernel
theorem dX11_fails_42 : decode cX11_fails 42 = .ok (.iload_n 2, 1) := by decide +kernel
theorem dX11_fails_43 : decode cX11_fails 43 = .ok (.invokevirtual 176, 3) := by decide +kernel
theorem dX11_fails_46 : decode cX11_fails 46 = .ok (.iload_n 3, 1) := by decide +kernel
theorem dX11_fails_47 : decode cX11_fails 47 = .ok (.iconst 1, 1) := by decide +kernel
theorem dX11_fails_48 : decode cX11_fails 48 = .ok (.if_icmp .eq 8, 3) := by decide +kernel
theorem dX11_fails_51 : decode cX11_fails 51 = .ok (.iload_n 3, 1) := by decide +kernel
theorem dX11_fails_52 : decode cX11_fails 52 = .ok (.iconst 4, 1) := by decide +kernel
theorem dX11_fails_53 : decode cX11_fails 53 = .ok (.if_icmp .ne 22, 3) := by decide +kernel
theorem dX11_fails_56 : decode cX11_fails 56 = .ok (.aload_n 0, 1) := by decide +kernel
theorem dX11_fails_57 : decode cX11_fails 57 = .ok (.iload_n 1, 1) := by decide +kernel
theorem dX11_fails_58 : decode cX11_fails 58 = .ok (.iload_n 2, 1) := by decide +kernel
theorem dX11_fails_59 : decode cX11_fails 59 = .ok (.iload_n 3, 1) := by decide +kernel
theorem dX11_fails_60 : decode cX11_fails 60 = .ok (.iconst 4, 1) := by decide +kernel
theorem dX11_fails_61 : decode cX11_fails 61 = .ok (.if_icmp .ne 7, 3) := by decide +kernel
theorem dX11_fails_64 : decode cX11_fails 64 = .ok (.iconst 1, 1) := by decide +kernel
theorem dX11_fails_65 : decode cX11_fails 65 = .ok (.goto 4, 3) := by decide +kernel
theorem dX11_fails_68 : decode cX11_fails 68 = .ok (.iconst 0, 1) := by decide +kernel
theorem dX11_fails_69 : decode cX11_fails 69 = .ok (.invokevirtual 168, 3) := by decide +kernel
theorem dX11_fails_72 : decode cX11_fails 72 = .ok (.goto 4, 3) := by decide +kernel
theorem dX11_fails_75 : decode cX11_fails 75 = .ok (.iconst 0, 1) := by decide +kernel
theorem dX11_fails_76 : decode cX11_fails 76 = .ok (.istore 4, 2) := by decide +kernel
theorem dX11_fails_78 : decode cX11_fails 78 = .ok (.aload_n 0, 1) := by decide +kernel
theorem dX11_fails_79 : decode cX11_fails 79 = .ok (.getfield 7, 3) := by decide +kernel
theorem dX11_fails_82 : decode cX11_fails 82 = .ok (.iload_n 1, 1) := by decide +kernel
theorem dX11_fails_83 : decode cX11_fails 83 = .ok (.bipush 7, 2) := by decide +kernel
theorem dX11_fails_85 : decode cX11_fails 85 = .ok (.iadd, 1) := by decide +kernel
theorem dX11_fails_86 : decode cX11_fails 86 = .ok (.iload 4, 2) := by decide +kernel
theorem dX11_fails_88 : decode cX11_fails 88 = .ok (.ifCond .ge 7, 3) := by decide +kernel
theorem dX11_fails_91 : decode cX11_fails 91 = .ok (.iconst 0, 1) := by decide +kernel
theorem dX11_fails_92 : decode cX11_fails 92 = .ok (.goto 4, 3) := by decide +kernel
theorem dX11_fails_95 : decode cX11_fails 95 = .ok (.iconst 1, 1) := by decide +kernel
theorem dX11_fails_96 : decode cX11_fails 96 = .ok (.iastore, 1) := by decide +kernel
theorem dX11_fails_97 : decode cX11_fails 97 = .ok (.return_, 1) := by decide +kernel
theorem dX11_stepsOnce_0 : decode cX11_stepsOnce 0 = .ok (.aload_n 0, 1) := by decide +kernel
theorem dX11_stepsOnce_1 : decode cX11_stepsOnce 1 = .ok (.bipush 11, 2) := by decide +kernel
theorem dX11_stepsOnce_3 : decode cX11_stepsOnce 3 = .ok (.iconst 1, 1) := by decide +kernel
theorem dX11_stepsOnce_4 : decode cX11_stepsOnce 4 = .ok (.invokevirtual 97, 3) := by decide +kernel
theorem dX11_stepsOnce_7 : decode cX11_stepsOnce 7 = .ok (.aload_n 0, 1) := by decide +kernel
theorem dX11_stepsOnce_8 : decode cX11_stepsOnce 8 = .ok (.getfield 7, 3) := by decide +kernel
theorem dX11_stepsOnce_11 : decode cX11_stepsOnce 11 = .ok (.iload_n 1, 1) := by decide +kernel
theorem dX11_stepsOnce_12 : decode cX11_stepsOnce 12 = .ok (.bipush 9, 2) := by decide +kernel
theorem dX11_stepsOnce_14 : decode cX11_stepsOnce 14 = .ok (.iadd, 1) := by decide +kernel
theorem dX11_stepsOnce_15 : decode cX11_stepsOnce 15 = .ok (.dup2, 1) := by decide +kernel
theorem dX11_stepsOnce_16 : decode cX11_stepsOnce 16 = .ok (.iaload, 1) := by decide +kernel
theorem dX11_stepsOnce_17 : decode cX11_stepsOnce 17 = .ok (.iconst 1, 1) := by decide +kernel
theorem dX11_stepsOnce_18 : decode cX11_stepsOnce 18 = .ok (.iadd, 1) := by decide +kernel
theorem dX11_stepsOnce_19 : decode cX11_stepsOnce 19 = .ok (.iastore, 1) := by decide +kernel
theorem dX11_stepsOnce_20 : decode cX11_stepsOnce 20 = .ok (.aload_n 0, 1) := by decide +kernel
theorem dX11_stepsOnce_21 : decode cX11_stepsOnce 21 = .ok (.getfield 7, 3) := by decide +kernel
theorem dX11_stepsOnce_24 : decode cX11_stepsOnce 24 = .ok (.iload_n 1, 1) := by decide +kernel
theorem dX11_stepsOnce_25 : decode cX11_stepsOnce 25 = .ok (.bipush 10, 2) := by decide +kernel
theorem dX11_stepsOnce_27 : decode cX11_stepsOnce 27 = .ok (.iadd, 1) := by decide +kernel
theorem dX11_stepsOnce_28 : decode cX11_stepsOnce 28 = .ok (.iaload, 1) := by decide +kernel
theorem dX11_stepsOnce_29 : decode cX11_stepsOnce 29 = .ok (.iconst 1, 1) := by decide +kernel
theorem dX11_stepsOnce_30 : decode cX11_stepsOnce 30 = .ok (.if_icmp .ne 7, 3) := by decide +kernel
theorem dX11_stepsOnce_33 : decode cX11_stepsOnce 33 = .ok (.iconst 1, 1) := by decide +kernel
theorem dX11_stepsOnce_34 : decode cX11_stepsOnce 34 = .ok (.goto 4, 3) := by decide +kernel
theorem dX11_stepsOnce_37 : decode cX11_stepsOnce 37 = .ok (.iconst 0, 1) := by decide +kernel
theorem dX11_stepsOnce_38 : decode cX11_stepsOnce 38 = .ok (.istore_n 2, 1) := by decide +kernel
theorem dX11_stepsOnce_39 : decode cX11_stepsOnce 39 = .ok (.aload_n 0, 1) := by decide +kernel
theorem dX11_stepsOnce_40 : decode cX11_stepsOnce 40 = .ok (.getfield 7, 3) := by decide +kernel
theorem dX11_stepsOnce_43 : decode cX11_stepsOnce 43 = .ok (.iload_n 1, 1) := by decide +kernel
theorem dX11_stepsOnce_44 : decode cX11_stepsOnce 44 = .ok (.bipush 10, 2) := by decide +kernel
theorem dX11_stepsOnce_46 : decode cX11_stepsOnce 46 = .ok (.iadd, 1) := by decide +kernel
theorem dX11_stepsOnce_47 : decode cX11_stepsOnce 47 = .ok (.iaload, 1) := by decide +kernel
theorem dX11_stepsOnce_48 : decode cX11_stepsOnce 48 = .ok (.ifCond .le 16, 3) := by decide +kernel
theorem dX11_stepsOnce_51 : decode cX11_stepsOnce 51 = .ok (.aload_n 0, 1) := by decide +kernel
theorem dX11_stepsOnce_52 : decode cX11_stepsOnce 52 = .ok (.getfield 7, 3) := by decide +kernel
theorem dX11_stepsOnce_55 : decode cX11_stepsOnce 55 = .ok (.iload_n 1, 1) := by decide +kernel
theorem dX11_stepsOnce_56 : decode cX11_stepsOnce 56 = .ok (.bipush 10, 2) := by decide +kernel
theorem dX11_stepsOnce_58 : decode cX11_stepsOnce 58 = .ok (.iadd, 1) := by decide +kernel
theorem dX11_stepsOnce_59 : decode cX11_stepsOnce 59 = .ok (.dup2, 1) := by decide +kernel
theorem dX11_stepsOnce_60 : decode cX11_stepsOnce 60 = .ok (.iaload, 1) := by decide +kernel
theorem dX11_stepsOnce_61 : decode cX11_stepsOnce 61 = .ok (.iconst 1, 1) := by decide +kernel
theorem dX11_stepsOnce_62 : decode cX11_stepsOnce 62 = .ok (.isub, 1) := by decide +kernel
theorem dX11_stepsOnce_63 : decode cX11_stepsOnce 63 = .ok (.iastore, 1) := by decide +kernel
theorem dX11_stepsOnce_64 : decode cX11_stepsOnce 64 = .ok (.iload_n 2, 1) := by decide +kernel
theorem dX11_stepsOnce_65 : decode cX11_stepsOnce 65 = .ok (.ifCond .eq 11, 3) := by decide +kernel
theorem dX11_stepsOnce_68 : decode cX11_stepsOnce 68 = .ok (.aload_n 0, 1) := by decide +kernel
theorem dX11_stepsOnce_69 : decode cX11_stepsOnce 69 = .ok (.iload_n 1, 1) := by decide +kernel
theorem dX11_stepsOnce_70 : decode cX11_stepsOnce 70 = .ok (.invokevirtual 183, 3) := by decide +kernel
theorem dX11_stepsOnce_73 : decode cX11_stepsOnce 73 = .ok (.goto 8, 3) := by decide +kernel
theorem dX11_stepsOnce_76 : decode cX11_stepsOnce 76 = .ok (.aload_n 0, 1) := by decide +kernel
theorem dX11_stepsOnce_77 : decode cX11_stepsOnce 77 = .ok (.iload_n 1, 1) := by decide +kernel
theorem dX11_stepsOnce_78 : decode cX11_stepsOnce 78 = .ok (.invokevirtual 186, 3) := by decide +kernel
theorem dX11_stepsOnce_81 : decode cX11_stepsOnce 81 = .ok (.return_, 1) := by decide +kernel
theorem dX11_isMove_0 : decode cX11_isMove 0 = .ok (.iload_n 1, 1) := by decide +kernel
theorem dX11_isMove_1 : decode cX11_isMove 1 = .ok (.i2l, 1) := by decide +kernel
theorem dX11_isMove_2 : decode cX11_isMove 2 = .ok (.lconst 0, 1) := by decide +kernel
theorem dX11_isMove_3 : decode cX11_isMove 3 = .ok (.aload_n 0, 1) := by decide +kernel
theorem dX11_isMove_4 : decode cX11_isMove 4 = .ok (.getfield 7, 3) := by decide +kernel
theorem dX11_isMove_7 : decode cX11_isMove 7 = .ok (.iconst 3, 1) := by decide +kernel
theorem dX11_isMove_8 : decode cX11_isMove 8 = .ok (.iaload, 1) := by decide +kernel
theorem dX11_isMove_9 : decode cX11_isMove 9 = .ok (.iconst 1, 1) := by decide +kernel
theorem dX11_isMove_10 : decode cX11_isMove 10 = .ok (.isub, 1) := by decide +kernel
theorem dX11_isMove_11 : decode cX11_isMove 11 = .ok (.i2l, 1) := by decide +kernel
theorem dX11_isMove_12 : decode cX11_isMove 12 = .ok (.invokestatic 45, 3) := by decide +kernel
theorem dX11_isMove_15 : decode cX11_isMove 15 = .ok (.ireturn, 1) := by decide +kernel
theorem dX11_canStep_0 : decode cX11_canStep 0 = .ok (.aload_n 0, 1) := by decide +kernel
theorem dX11_canStep_1 : decode cX11_canStep 1 = .ok (.iload_n 1, 1) := by decide +kernel
theorem dX11_canStep_2 : decode cX11_canStep 2 = .ok (.invokevirtual 189, 3) := by decide +kernel
theorem dX11_canStep_5 : decode cX11_canStep 5 = .ok (.ifCond .eq 30, 3) := by decide +kernel
theorem dX11_canStep_8 : decode cX11_canStep 8 = .ok (.aload_n 0, 1) := by decide +kernel
theorem dX11_canStep_9 : decode cX11_canStep 9 = .ok (.iload_n 1, 1) := by decide +kernel
theorem dX11_canStep_10 : decode cX11_canStep 10 = .ok (.invokevirtual 67, 3) := by decide +kernel
theorem dX11_canStep_13 : decode cX11_canStep 13 = .ok (.ifCond .eq 22, 3) := by decide +kernel
theorem dX11_canStep_16 : decode cX11_canStep 16 = .ok (.aload_n 0, 1) := by decide +kernel
theorem dX11_canStep_17 : decode cX11_canStep 17 = .ok (.getfield 7, 3) := by decide +kernel
theorem dX11_canStep_20 : decode cX11_canStep 20 = .ok (.iload_n 1, 1) := by decide +kernel
theorem dX11_canStep_21 : decode cX11_canStep 21 = .ok (.invokestatic 62, 3) := by decide +kernel
theorem dX11_canStep_24 : decode cX11_canStep 24 = .ok (.bipush 7, 2) := by decide +kernel
theorem dX11_canStep_26 : decode cX11_canStep 26 = .ok (.iadd, 1) := by decide +kernel
theorem dX11_canStep_27 : decode cX11_canStep 27 = .ok (.iaload, 1) := by decide +kernel
theorem dX11_canStep_28 : decode cX11_canStep 28 = .ok (.ifCond .ne 7, 3) := by decide +kernel
theorem dX11_canStep_31 : decode cX11_canStep 31 = .ok (.iconst 1, 1) := by decide +kernel
theorem dX11_canStep_32 : decode cX11_canStep 32 = .ok (.goto 4, 3) := by decide +kernel
theorem dX11_canStep_35 : decode cX11_canStep 35 = .ok (.iconst 0, 1) := by decide +kernel
theorem dX11_canStep_36 : decode cX11_canStep 36 = .ok (.ireturn, 1) := by decide +kernel
theorem dX11_step_0 : decode cX11_step 0 = .ok (.iload_n 2, 1) := by decide +kernel
theorem dX11_step_1 : decode cX11_step 1 = .ok (.i2l, 1) := by decide +kernel
theorem dX11_step_2 : decode cX11_step 2 = .ok (.lconst 1, 1) := by decide +kernel
theorem dX11_step_3 : decode cX11_step 3 = .ok (.ldc2_w 192, 3) := by decide +kernel
theorem dX11_step_6 : decode cX11_step 6 = .ok (.invokestatic 45, 3) := by decide +kernel
theorem dX11_step_9 : decode cX11_step 9 = .ok (.ifCond .eq 11, 3) := by decide +kernel
theorem dX11_step_12 : decode cX11_step 12 = .ok (.aload_n 0, 1) := by decide +kernel
theorem dX11_step_13 : decode cX11_step 13 = .ok (.iload_n 1, 1) := by decide +kernel
theorem dX11_step_14 : decode cX11_step 14 = .ok (.invokevirtual 194, 3) := by decide +kernel
theorem dX11_step_17 : decode cX11_step 17 = .ok (.ifCond .ne 5, 3) := by decide +kernel
theorem dX11_step_20 : decode cX11_step 20 = .ok (.iconst (-1), 1) := by decide +kernel
theorem dX11_step_21 : decode cX11_step 21 = .ok (.ireturn, 1) := by decide +kernel
theorem dX11_step_22 : decode cX11_step 22 = .ok (.aload_n 0, 1) := by decide +kernel
theorem dX11_step_23 : decode cX11_step 23 = .ok (.invokevirtual 86, 3) := by decide +kernel
theorem dX11_step_26 : decode cX11_step 26 = .ok (.iconst 0, 1) := by decide +kernel
theorem dX11_step_27 : decode cX11_step 27 = .ok (.istore_n 3, 1) := by decide +kernel
theorem dX11_step_28 : decode cX11_step 28 = .ok (.iload_n 3, 1) := by decide +kernel
theorem dX11_step_29 : decode cX11_step 29 = .ok (.iload_n 2, 1) := by decide +kernel
theorem dX11_step_30 : decode cX11_step 30 = .ok (.if_icmp .ge 25, 3) := by decide +kernel
theorem dX11_step_33 : decode cX11_step 33 = .ok (.aload_n 0, 1) := by decide +kernel
theorem dX11_step_34 : decode cX11_step 34 = .ok (.iload_n 1, 1) := by decide +kernel
theorem dX11_step_35 : decode cX11_step 35 = .ok (.invokevirtual 194, 3) := by decide +kernel
theorem dX11_step_38 : decode cX11_step 38 = .ok (.ifCond .eq 17, 3) := by decide +kernel
theorem dX11_step_41 : decode cX11_step 41 = .ok (.aload_n 0, 1) := by decide +kernel
theorem dX11_step_42 : decode cX11_step 42 = .ok (.iload_n 1, 1) := by decide +kernel
theorem dX11_step_43 : decode cX11_step 43 = .ok (.invokestatic 62, 3) := by decide +kernel
theorem dX11_step_46 : decode cX11_step 46 = .ok (.invokevirtual 197, 3) := by decide +kernel
theorem dX11_step_49 : decode cX11_step 49 = .ok (.iinc 3 1, 3) := by decide +kernel
theorem dX11_step_52 : decode cX11_step 52 = .ok (.goto (-24), 3) := by decide +kernel
theorem dX11_step_55 : decode cX11_step 55 = .ok (.aload_n 0, 1) := by decide +kernel
theorem dX11_step_56 : decode cX11_step 56 = .ok (.getfield 7, 3) := by decide +kernel
theorem dX11_step_59 : decode cX11_step 59 = .ok (.iload_n 1, 1) := by decide +kernel
theorem dX11_step_60 : decode cX11_step 60 = .ok (.invokestatic 62, 3) := by decide +kernel
theorem dX11_step_63 : decode cX11_step 63 = .ok (.iconst 0, 1) := by decide +kernel
theorem dX11_step_64 : decode cX11_step 64 = .ok (.iadd, 1) := by decide +kernel
theorem dX11_step_65 : decode cX11_step 65 = .ok (.iaload, 1) := by decide +kernel
theorem dX11_step_66 : decode cX11_step 66 = .ok (.ireturn, 1) := by decide +kernel
theorem dX11_fail_0 : decode cX11_fail 0 = .ok (.iload_n 2, 1) := by decide +kernel
theorem dX11_fail_1 : decode cX11_fail 1 = .ok (.i2l, 1) := by decide +kernel
theorem dX11_fail_2 : decode cX11_fail 2 = .ok (.lconst 0, 1) := by decide +kernel
theorem dX11_fail_3 : decode cX11_fail 3 = .ok (.ldc2_w 200, 3) := by decide +kernel
theorem dX11_fail_6 : decode cX11_fail 6 = .ok (.invokestatic 45, 3) := by decide +kernel
theorem dX11_fail_9 : decode cX11_fail 9 = .ok (.ifCond .eq 19, 3) := by decide +kernel
theorem dX11_fail_12 : decode cX11_fail 12 = .ok (.aload_n 0, 1) := by decide +kernel
theorem dX11_fail_13 : decode cX11_fail 13 = .ok (.iload_n 1, 1) := by decide +kernel
theorem dX11_fail_14 : decode cX11_fail 14 = .ok (.invokevirtual 189, 3) := by decide +kernel
theorem dX11_fail_17 : decode cX11_fail 17 = .ok (.ifCond .eq 11, 3) := by decide +kernel
theorem dX11_fail_20 : decode cX11_fail 20 = .ok (.aload_n 0, 1) := by decide +kernel
theorem dX11_fail_21 : decode cX11_fail 21 = .ok (.iload_n 1, 1) := by decide +kernel
theorem dX11_fail_22 : decode cX11_fail 22 = .ok (.invokevirtual 67, 3) := by decide +kernel
theorem dX11_fail_25 : decode cX11_fail 25 = .ok (.ifCond .ne 5, 3) := by decide +kernel
theorem dX11_fail_28 : decode cX11_fail 28 = .ok (.iconst 0, 1) := by decide +kernel
theorem dX11_fail_29 : decode cX11_fail 29 = .ok (.ireturn, 1) := by decide +kernel
theorem dX11_fail_30 : decode cX11_fail 30 = .ok (.aload_n 0, 1) := by decide +kernel
theorem dX11_fail_31 : decode cX11_fail 31 = .ok (.invokevirtual 124, 3) := by decide +kernel
theorem dX11_fail_34 : decode cX11_fail 34 = .ok (.aload_n 0, 1) := by decide +kernel
theorem dX11_fail_35 : decode cX11_fail 35 = .ok (.getfield 7, 3) := by decide +kernel
theorem dX11_fail_38 : decode cX11_fail 38 = .ok (.iload_n 1, 1) := by decide +kernel
theorem dX11_fail_39 : decode cX11_fail 39 = .ok (.invokestatic 62, 3) := by decide +kernel
theorem dX11_fail_42 : decode cX11_fail 42 = .ok (.bipush 10, 2) := by decide +kernel
theorem dX11_fail_44 : decode cX11_fail 44 = .ok (.iadd, 1) := by decide +kernel
theorem dX11_fail_45 : decode cX11_fail 45 = .ok (.iload_n 2, 1) := by decide +kernel
theorem dX11_fail_46 : decode cX11_fail 46 = .ok (.iastore, 1) := by decide +kernel
theorem dX11_fail_47 : decode cX11_fail 47 = .ok (.iconst 1, 1) := by decide +kernel
theorem dX11_fail_48 : decode cX11_fail 48 = .ok (.ireturn, 1) := by decide +kernel
theorem dX11_down_0 : decode cX11_down 0 = .ok (.iload_n 1, 1) := by decide +kernel
theorem dX11_down_1 : decode cX11_down 1 = .ok (.invokestatic 161, 3) := by decide +kernel
theorem dX11_down_4 : decode cX11_down 4 = .ok (.ifCond .eq 14, 3) := by decide +kernel
theorem dX11_down_7 : decode cX11_down 7 = .ok (.aload_n 0, 1) := by decide +kernel
theorem dX11_down_8 : decode cX11_down 8 = .ok (.getfield 7, 3) := by decide +kernel
theorem dX11_down_11 : decode cX11_down 11 = .ok (.iconst 4, 1) := by decide +kernel
theorem dX11_down_12 : decode cX11_down 12 = .ok (.iload_n 1, 1) := by decide +kernel
theorem dX11_down_13 : decode cX11_down 13 = .ok (.iadd, 1) := by decide +kernel
theorem dX11_down_14 : decode cX11_down 14 = .ok (.iaload, 1) := by decide +kernel
theorem dX11_down_15 : decode cX11_down 15 = .ok (.ifCond .ne 5, 3) := by decide +kernel
theorem dX11_down_18 : decode cX11_down 18 = .ok (.iconst (-1), 1) := by decide +kernel
theorem dX11_down_19 : decode cX11_down 19 = .ok (.ireturn, 1) := by decide +kernel
theorem dX11_down_20 : decode cX11_down 20 = .ok (.aload_n 0, 1) := by decide +kernel
theorem dX11_down_21 : decode cX11_down 21 = .ok (.invokevirtual 124, 3) := by decide +kernel
theorem dX11_down_24 : decode cX11_down 24 = .ok (.aload_n 0, 1) := by decide +kernel
theorem dX11_down_25 : decode cX11_down 25 = .ok (.getfield 7, 3) := by decide +kernel
theorem dX11_down_28 : decode cX11_down 28 = .ok (.iconst 4, 1) := by decide +kernel
theorem dX11_down_29 : decode cX11_down 29 = .ok (.iload_n 1, 1) := by decide +kernel
theorem dX11_down_30 : decode cX11_down 30 = .ok (.iadd, 1) := by decide +kernel
theorem dX11_down_31 : decode cX11_down 31 = .ok (.iconst 0, 1) := by decide +kernel
theorem dX11_down_32 : decode cX11_down 32 = .ok (.iastore, 1) := by decide +kernel
theorem dX11_down_33 : decode cX11_down 33 = .ok (.iconst 0, 1) := by decide +kernel
theorem dX11_down_34 : decode cX11_down 34 = .ok (.istore_n 2, 1) := by decide +kernel
theorem dX11_down_35 : decode cX11_down 35 = .ok (.iconst 0, 1) := by decide +kernel
theorem dX11_down_36 : decode cX11_down 36 = .ok (.istore_n 3, 1) := by decide +kernel
theorem dX11_down_37 : decode cX11_down 37 = .ok (.iload_n 3, 1) := by decide +kernel
theorem dX11_down_38 : decode cX11_down 38 = .ok (.aload_n 0, 1) := by decide +kernel
theorem dX11_down_39 : decode cX11_down 39 = .ok (.getfield 7, 3) := by decide +kernel
theorem dX11_down_42 : decode cX11_down 42 = .ok (.iconst 3, 1) := by decide +kernel
theorem dX11_down_43 : decode cX11_down 43 = .ok (.iaload, 1) := by decide +kernel
theorem dX11_down_44 : decode cX11_down 44 = .ok (.if_icmp .ge 131, 3) := by decide +kernel
theorem dX11_down_47 : decode cX11_down 47 = .ok (.iload_n 3, 1) := by decide +kernel
theorem dX11_down_48 : decode cX11_down 48 = .ok (.invokestatic 62, 3) := by decide +kernel
theorem dX11_down_51 : decode cX11_down 51 = .ok (.istore 4, 2) := by decide +kernel
theorem dX11_down_53 : decode cX11_down 53 = .ok (.aload_n 0, 1) := by decide +kernel
theorem dX11_down_54 : decode cX11_down 54 = .ok (.getfield 7, 3) := by decide +kernel
theorem dX11_down_57 : decode cX11_down 57 = .ok (.iload 4, 2) := by decide +kernel
theorem dX11_down_59 : decode cX11_down 59 = .ok (.iconst 3, 1) := by decide +kernel
theorem dX11_down_60 : decode cX11_down 60 = .ok (.iadd, 1) := by decide +kernel
theorem dX11_down_61 : decode cX11_down 61 = .ok (.iaload, 1) := by decide +kernel
theorem dX11_down_62 : decode cX11_down 62 = .ok (.iload_n 1, 1) := by decide +kernel
theorem dX11_down_63 : decode cX11_down 63 = .ok (.if_icmp .ne 7, 3) := by decide +kernel
theorem dX11_down_66 : decode cX11_down 66 = .ok (.iconst 1, 1) := by decide +kernel
theorem dX11_down_67 : decode cX11_down 67 = .ok (.goto 4, 3) := by decide +kernel
theorem dX11_down_70 : decode cX11_down 70 = .ok (.iconst 0, 1) := by decide +kernel
theorem dX11_down_71 : decode cX11_down 71 = .ok (.istore 5, 2) := by decide +kernel
theorem dX11_down_73 : decode cX11_down 73 = .ok (.aload_n 0, 1) := by decide +kernel
theorem dX11_down_74 : decode cX11_down 74 = .ok (.iload_n 3, 1) := by decide +kernel
theorem dX11_down_75 : decode cX11_down 75 = .ok (.invokevirtual 67, 3) := by decide +kernel
theorem dX11_down_78 : decode cX11_down 78 = .ok (.ifCond .eq 91, 3) := by decide +kernel
theorem dX11_down_81 : decode cX11_down 81 = .ok (.iload 5, 2) := by decide +kernel
theorem dX11_down_83 : decode cX11_down 83 = .ok (.ifCond .ne 19, 3) := by decide +kernel
theorem dX11_down_86 : decode cX11_down 86 = .ok (.aload_n 0, 1) := by decide +kernel
theorem dX11_down_87 : decode cX11_down 87 = .ok (.getfield 7, 3) := by decide +kernel
theorem dX11_down_90 : decode cX11_down 90 = .ok (.iload 4, 2) := by decide +kernel
theorem dX11_down_92 : decode cX11_down 92 = .ok (.iconst 4, 1) := by decide +kernel
theorem dX11_down_93 : decode cX11_down 93 = .ok (.iadd, 1) := by decide +kernel
theorem dX11_down_94 : decode cX11_down 94 = .ok (.iaload, 1) := by decide +kernel
theorem dX11_down_95 : decode cX11_down 95 = .ok (.iload_n 1, 1) := by decide +kernel
theorem dX11_down_96 : decode cX11_down 96 = .ok (.if_icmp .eq 6, 3) := by decide +kernel
theorem dX11_down_99 : decode cX11_down 99 = .ok (.goto 70, 3) := by decide +kernel
theorem dX11_down_102 : decode cX11_down 102 = .ok (.iload 5, 2) := by decide +kernel
theorem dX11_down_104 : decode cX11_down 104 = .ok (.ifCond .eq 14, 3) := by decide +kernel
theorem dX11_down_107 : decode cX11_down 107 = .ok (.aload_n 0, 1) := by decide +kernel
theorem dX11_down_108 : decode cX11_down 108 = .ok (.getfield 7, 3) := by decide +kernel
theorem dX11_down_111 : decode cX11_down 111 = .ok (.iload 4, 2) := by decide +kernel
theorem dX11_down_113 : decode cX11_down 113 = .ok (.bipush 6, 2) := by decide +kernel
theorem dX11_down_115 : decode cX11_down 115 = .ok (.iadd, 1) := by decide +kernel
theorem dX11_down_116 : decode cX11_down 116 = .ok (.iconst 0, 1) := by decide +kernel
theorem dX11_down_117 : decode cX11_down 117 = .ok (.iastore, 1) := by decide +kernel
theorem dX11_down_118 : decode cX11_down 118 = .ok (.aload_n 0, 1) := by decide +kernel
theorem dX11_down_119 : decode cX11_down 119 = .ok (.getfield 7, 3) := by decide +kernel
theorem dX11_down_122 : decode cX11_down 122 = .ok (.iload 4, 2) := by decide +kernel
theorem dX11_down_124 : decode cX11_down 124 = .ok (.bipush 7, 2) := by decide +kernel
theorem dX11_down_126 : decode cX11_down 126 = .ok (.iadd, 1) := by decide +kernel
theorem dX11_down_127 : decode cX11_down 127 = .ok (.iaload, 1) := by decide +kernel
theorem dX11_down_128 : decode cX11_down 128 = .ok (.iconst 1, 1) := by decide +kernel
theorem dX11_down_129 : decode cX11_down 129 = .ok (.if_icmp .ne 6, 3) := by decide +kernel
theorem dX11_down_132 : decode cX11_down 132 = .ok (.goto 37, 3) := by decide +kernel
theorem dX11_down_135 : decode cX11_down 135 = .ok (.aload_n 0, 1) := by decide +kernel
theorem dX11_down_136 : decode cX11_down 136 = .ok (.getfield 7, 3) := by decide +kernel
theorem dX11_down_139 : decode cX11_down 139 = .ok (.iload 4, 2) := by decide +kernel
theorem dX11_down_141 : decode cX11_down 141 = .ok (.bipush 7, 2) := by decide +kernel
theorem dX11_down_143 : decode cX11_down 143 = .ok (.iadd, 1) := by decide +kernel
theorem dX11_down_144 : decode cX11_down 144 = .ok (.iconst 1, 1) := by decide +kernel
theorem dX11_down_145 : decode cX11_down 145 = .ok (.iastore, 1) := by decide +kernel
theorem dX11_down_146 : decode cX11_down 146 = .ok (.aload_n 0, 1) := by decide +kernel
theorem dX11_down_147 : decode cX11_down 147 = .ok (.getfield 7, 3) := by decide +kernel
theorem dX11_down_150 : decode cX11_down 150 = .ok (.iload 4, 2) := by decide +kernel
theorem dX11_down_152 : decode cX11_down 152 = .ok (.bipush 8, 2) := by decide +kernel
theorem dX11_down_154 : decode cX11_down 154 = .ok (.iadd, 1) := by decide +kernel
theorem dX11_down_155 : decode cX11_down 155 = .ok (.iload 5, 2) := by decide +kernel
theorem dX11_down_157 : decode cX11_down 157 = .ok (.ifCond .eq 7, 3) := by decide +kernel
theorem dX11_down_160 : decode cX11_down 160 = .ok (.iconst 1, 1) := by decide +kernel
theorem dX11_down_161 : decode cX11_down 161 = .ok (.goto 4, 3) := by decide +kernel
theorem dX11_down_164 : decode cX11_down 164 = .ok (.iconst 2, 1) := by decide +kernel
theorem dX11_down_165 : decode cX11_down 165 = .ok (.iastore, 1) := by decide +kernel
theorem dX11_down_166 : decode cX11_down 166 = .ok (.iinc 2 1, 3) := by decide +kernel
theorem dX11_down_169 : decode cX11_down 169 = .ok (.iinc 3 1, 3) := by decide +kernel
theorem dX11_down_172 : decode cX11_down 172 = .ok (.goto (-135), 3) := by decide +kernel
theorem dX11_down_175 : decode cX11_down 175 = .ok (.iload_n 2, 1) := by decide +kernel
theorem dX11_down_176 : decode cX11_down 176 = .ok (.ireturn, 1) := by decide +kernel
theorem dX11_up_0 : decode cX11_up 0 = .ok (.iload_n 1, 1) := by decide +kernel
theorem dX11_up_1 : decode cX11_up 1 = .ok (.invokestatic 161, 3) := by decide +kernel
theorem dX11_up_4 : decode cX11_up 4 = .ok (.ifCond .eq 15, 3) := by decide +kernel
theorem dX11_up_7 : decode cX11_up 7 = .ok (.aload_n 0, 1) := by decide +kernel
theorem dX11_up_8 : decode cX11_up 8 = .ok (.getfield 7, 3) := by decide +kernel
theorem dX11_up_11 : decode cX11_up 11 = .ok (.iconst 4, 1) := by decide +kernel
theorem dX11_up_12 : decode cX11_up 12 = .ok (.iload_n 1, 1) := by decide +kernel
theorem dX11_up_13 : decode cX11_up 13 = .ok (.iadd, 1) := by decide +kernel
theorem dX11_up_14 : decode cX11_up 14 = .ok (.iaload, 1) := by decide +kernel
theorem dX11_up_15 : decode cX11_up 15 = .ok (.iconst 1, 1) := by decide +kernel
theorem dX11_up_16 : decode cX11_up 16 = .ok (.if_icmp .ne 5, 3) := by decide +kernel
theorem dX11_up_19 : decode cX11_up 19 = .ok (.iconst 0, 1) := by decide +kernel
theorem dX11_up_20 : decode cX11_up 20 = .ok (.ireturn, 1) := by decide +kernel
theorem dX11_up_21 : decode cX11_up 21 = .ok (.aload_n 0, 1) := by decide +kernel
theorem dX11_up_22 : decode cX11_up 22 = .ok (.invokevirtual 124, 3) := by decide +kernel
theorem dX11_up_25 : decode cX11_up 25 = .ok (.aload_n 0, 1) := by decide +kernel
theorem dX11_up_26 : decode cX11_up 26 = .ok (.getfield 7, 3) := by decide +kernel
theorem dX11_up_29 : decode cX11_up 29 = .ok (.iconst 4, 1) := by decide +kernel
theorem dX11_up_30 : decode cX11_up 30 = .ok (.iload_n 1, 1) := by decide +kernel
theorem dX11_up_31 : decode cX11_up 31 = .ok (.iadd, 1) := by decide +kernel
theorem dX11_up_32 : decode cX11_up 32 = .ok (.iconst 1, 1) := by decide +kernel
theorem dX11_up_33 : decode cX11_up 33 = .ok (.iastore, 1) := by decide +kernel
theorem dX11_up_34 : decode cX11_up 34 = .ok (.iconst 1, 1) := by decide +kernel
theorem dX11_up_35 : decode cX11_up 35 = .ok (.ireturn, 1) := by decide +kernel
theorem dX11_loses_0 : decode cX11_loses 0 = .ok (.aload_n 0, 1) := by decide +kernel
theorem dX11_loses_1 : decode cX11_loses 1 = .ok (.getfield 7, 3) := by decide +kernel
theorem dX11_loses_4 : decode cX11_loses 4 = .ok (.iload_n 1, 1) := by decide +kernel
theorem dX11_loses_5 : decode cX11_loses 5 = .ok (.iconst 1, 1) := by decide +kernel
theorem dX11_loses_6 : decode cX11_loses 6 = .ok (.iadd, 1) := by decide +kernel
theorem dX11_loses_7 : decode cX11_loses 7 = .ok (.iaload, 1) := by decide +kernel
theorem dX11_loses_8 : decode cX11_loses 8 = .ok (.istore_n 3, 1) := by decide +kernel
theorem dX11_loses_9 : decode cX11_loses 9 = .ok (.iload_n 3, 1) := by decide +kernel
theorem dX11_loses_10 : decode cX11_loses 10 = .ok (.aload_n 0, 1) := by decide +kernel
theorem dX11_loses_11 : decode cX11_loses 11 = .ok (.getfield 7, 3) := by decide +kernel
theorem dX11_loses_14 : decode cX11_loses 14 = .ok (.iload_n 1, 1) := by decide +kernel
theorem dX11_loses_15 : decode cX11_loses 15 = .ok (.iconst 2, 1) := by decide +kernel
theorem dX11_loses_16 : decode cX11_loses 16 = .ok (.iadd, 1) := by decide +kernel
theorem dX11_loses_17 : decode cX11_loses 17 = .ok (.iaload, 1) := by decide +kernel
theorem dX11_loses_18 : decode cX11_loses 18 = .ok (.if_icmp .ge 20, 3) := by decide +kernel
theorem dX11_loses_21 : decode cX11_loses 21 = .ok (.aload_n 0, 1) := by decide +kernel
theorem dX11_loses_22 : decode cX11_loses 22 = .ok (.getfield 7, 3) := by decide +kernel
theorem dX11_loses_25 : decode cX11_loses 25 = .ok (.iload_n 2, 1) := by decide +kernel
theorem dX11_loses_26 : decode cX11_loses 26 = .ok (.iload_n 3, 1) := by decide +kernel
theorem dX11_loses_27 : decode cX11_loses 27 = .ok (.invokestatic 136, 3) := by decide +kernel
theorem dX11_loses_30 : decode cX11_loses 30 = .ok (.iconst 0, 1) := by decide +kernel
theorem dX11_loses_31 : decode cX11_loses 31 = .ok (.iastore, 1) := by decide +kernel
theorem dX11_loses_32 : decode cX11_loses 32 = .ok (.iinc 3 1, 3) := by decide +kernel
theorem dX11_loses_35 : decode cX11_loses 35 = .ok (.goto (-26), 3) := by decide +kernel
theorem dX11_loses_38 : decode cX11_loses 38 = .ok (.return_, 1) := by decide +kernel
theorem dX11_areUp_0 : decode cX11_areUp 0 = .ok (.aload_n 0, 1) := by decide +kernel
theorem dX11_areUp_1 : decode cX11_areUp 1 = .ok (.getfield 7, 3) := by decide +kernel
theorem dX11_areUp_4 : decode cX11_areUp 4 = .ok (.iconst 4, 1) := by decide +kernel
theorem dX11_areUp_5 : decode cX11_areUp 5 = .ok (.aload_n 0, 1) := by decide +kernel
theorem dX11_areUp_6 : decode cX11_areUp 6 = .ok (.getfield 7, 3) := by decide +kernel
theorem dX11_areUp_9 : decode cX11_areUp 9 = .ok (.iload_n 1, 1) := by decide +kernel
theorem dX11_areUp_10 : decode cX11_areUp 10 = .ok (.iconst 3, 1) := by decide +kernel
theorem dX11_areUp_11 : decode cX11_areUp 11 = .ok (.iadd, 1) := by decide +kernel
theorem dX11_areUp_12 : decode cX11_areUp 12 = .ok (.iaload, 1) := by decide +kernel
theorem dX11_areUp_13 : decode cX11_areUp 13 = .ok (.iadd, 1) := by decide +kernel
theorem dX11_areUp_14 : decode cX11_areUp 14 = .ok (.iaload, 1) := by decide +kernel
theorem dX11_areUp_15 : decode cX11_areUp 15 = .ok (.iconst 1, 1) := by decide +kernel
theorem dX11_areUp_16 : decode cX11_areUp 16 = .ok (.if_icmp .ne 26, 3) := by decide +kernel
theorem dX11_areUp_19 : decode cX11_areUp 19 = .ok (.aload_n 0, 1) := by decide +kernel
theorem dX11_areUp_20 : decode cX11_areUp 20 = .ok (.getfield 7, 3) := by decide +kernel
theorem dX11_areUp_23 : decode cX11_areUp 23 = .ok (.iconst 4, 1) := by decide +kernel
theorem dX11_areUp_24 : decode cX11_areUp 24 = .ok (.aload_n 0, 1) := by decide +kernel
theorem dX11_areUp_25 : decode cX11_areUp 25 = .ok (.getfield 7, 3) := by decide +kernel
theorem dX11_areUp_28 : decode cX11_areUp 28 = .ok (.iload_n 1, 1) := by decide +kernel
theorem dX11_areUp_29 : decode cX11_areUp 29 = .ok (.iconst 4, 1) := by decide +kernel
theorem dX11_areUp_30 : decode cX11_areUp 30 = .ok (.iadd, 1) := by decide +kernel
theorem dX11_areUp_31 : decode cX11_areUp 31 = .ok (.iaload, 1) := by decide +kernel
theorem dX11_areUp_32 : decode cX11_areUp 32 = .ok (.iadd, 1) := by decide +kernel
theorem dX11_areUp_33 : decode cX11_areUp 33 = .ok (.iaload, 1) := by decide +kernel
theorem dX11_areUp_34 : decode cX11_areUp 34 = .ok (.iconst 1, 1) := by decide +kernel
theorem dX11_areUp_35 : decode cX11_areUp 35 = .ok (.if_icmp .ne 7, 3) := by decide +kernel
theorem dX11_areUp_38 : decode cX11_areUp 38 = .ok (.iconst 1, 1) := by decide +kernel
theorem dX11_areUp_39 : decode cX11_areUp 39 = .ok (.goto 4, 3) := by decide +kernel
theorem dX11_areUp_42 : decode cX11_areUp 42 = .ok (.iconst 0, 1) := by decide +kernel
theorem dX11_areUp_43 : decode cX11_areUp 43 = .ok (.ireturn, 1) := by decide +kernel
theorem dX11_ends_0 : decode cX11_ends 0 = .ok (.aload_n 0, 1) := by decide +kernel
theorem dX11_ends_1 : decode cX11_ends 1 = .ok (.getfield 7, 3) := by decide +kernel
theorem dX11_ends_4 : decode cX11_ends 4 = .ok (.iload_n 1, 1) := by decide +kernel
theorem dX11_ends_5 : decode cX11_ends 5 = .ok (.iconst 0, 1) := by decide +kernel
theorem dX11_ends_6 : decode cX11_ends 6 = .ok (.iadd, 1) := by decide +kernel
theorem dX11_ends_7 : decode cX11_ends 7 = .ok (.iaload, 1) := by decide +kernel
theorem dX11_ends_8 : decode cX11_ends 8 = .ok (.iconst 3, 1) := by decide +kernel
theorem dX11_ends_9 : decode cX11_ends 9 = .ok (.if_icmp .gt 7, 3) := by decide +kernel
theorem dX11_ends_12 : decode cX11_ends 12 = .ok (.iconst 1, 1) := by decide +kernel
theorem dX11_ends_13 : decode cX11_ends 13 = .ok (.goto 4, 3) := by decide +kernel
theorem dX11_ends_16 : decode cX11_ends 16 = .ok (.iconst 0, 1) := by decide +kernel
theorem dX11_ends_17 : decode cX11_ends 17 = .ok (.istore_n 2, 1) := by decide +kernel
theorem dX11_ends_18 : decode cX11_ends 18 = .ok (.aload_n 0, 1) := by decide +kernel
theorem dX11_ends_19 : decode cX11_ends 19 = .ok (.iload_n 1, 1) := by decide +kernel
theorem dX11_ends_20 : decode cX11_ends 20 = .ok (.aload_n 0, 1) := by decide +kernel
theorem dX11_ends_21 : decode cX11_ends 21 = .ok (.getfield 7, 3) := by decide +kernel
theorem dX11_ends_24 : decode cX11_ends 24 = .ok (.iload_n 1, 1) := by decide +kernel
theorem dX11_ends_25 : decode cX11_ends 25 = .ok (.iload_n 2, 1) := by decide +kernel
theorem dX11_ends_26 : decode cX11_ends 26 = .ok (.ifCond .eq 7, 3) := by decide +kernel
theorem dX11_ends_29 : decode cX11_ends 29 = .ok (.iconst 4, 1) := by decide +kernel
theorem dX11_ends_30 : decode cX11_ends 30 = .ok (.goto 4, 3) := by decide +kernel
theorem dX11_ends_33 : decode cX11_ends 33 = .ok (.iconst 3, 1) := by decide +kernel
theorem dX11_ends_34 : decode cX11_ends 34 = .ok (.iadd, 1) := by decide +kernel
theorem dX11_ends_35 : decode cX11_ends 35 = .ok (.iaload, 1) := by decide +kernel
theorem dX11_ends_36 : decode cX11_ends 36 = .ok (.invokevirtual 202, 3) := by decide +kernel
theorem dX11_ends_39 : decode cX11_ends 39 = .ok (.aload_n 0, 1) := by decide +kernel
theorem dX11_ends_40 : decode cX11_ends 40 = .ok (.getfield 7, 3) := by decide +kernel
theorem dX11_ends_43 : decode cX11_ends 43 = .ok (.iload_n 1, 1) := by decide +kernel
theorem dX11_ends_44 : decode cX11_ends 44 = .ok (.iconst 0, 1) := by decide +kernel
theorem dX11_ends_45 : decode cX11_ends 45 = .ok (.iadd, 1) := by decide +kernel
theorem dX11_ends_46 : decode cX11_ends 46 = .ok (.iload_n 2, 1) := by decide +kernel
theorem dX11_ends_47 : decode cX11_ends 47 = .ok (.ifCond .eq 8, 3) := by decide +kernel
theorem dX11_ends_50 : decode cX11_ends 50 = .ok (.bipush 6, 2) := by decide +kernel
theorem dX11_ends_52 : decode cX11_ends 52 = .ok (.goto 4, 3) := by decide +kernel
theorem dX11_ends_55 : decode cX11_ends 55 = .ok (.iconst 5, 1) := by decide +kernel
theorem dX11_ends_56 : decode cX11_ends 56 = .ok (.iastore, 1) := by decide +kernel
theorem dX11_ends_57 : decode cX11_ends 57 = .ok (.aload_n 0, 1) := by decide +kernel
theorem dX11_ends_58 : decode cX11_ends 58 = .ok (.getfield 7, 3) := by decide +kernel
theorem dX11_ends_61 : decode cX11_ends 61 = .ok (.iload_n 1, 1) := by decide +kernel
theorem dX11_ends_62 : decode cX11_ends 62 = .ok (.bipush 7, 2) := by decide +kernel
theorem dX11_ends_64 : decode cX11_ends 64 = .ok (.iadd, 1) := by decide +kernel
theorem dX11_ends_65 : decode cX11_ends 65 = .ok (.iconst 0, 1) := by decide +kernel
theorem dX11_ends_66 : decode cX11_ends 66 = .ok (.iastore, 1) := by decide +kernel
theorem dX11_ends_67 : decode cX11_ends 67 = .ok (.aload_n 0, 1) := by decide +kernel
theorem dX11_ends_68 : decode cX11_ends 68 = .ok (.iload_n 2, 1) := by decide +kernel
theorem dX11_ends_69 : decode cX11_ends 69 = .ok (.ifCond .eq 8, 3) := by decide +kernel
theorem dX11_ends_72 : decode cX11_ends 72 = .ok (.bipush 10, 2) := by decide +kernel
theorem dX11_ends_74 : decode cX11_ends 74 = .ok (.goto 5, 3) := by decide +kernel
theorem dX11_ends_77 : decode cX11_ends 77 = .ok (.bipush 9, 2) := by decide +kernel
theorem dX11_ends_79 : decode cX11_ends 79 = .ok (.iconst 1, 1) := by decide +kernel
theorem dX11_ends_80 : decode cX11_ends 80 = .ok (.invokevirtual 97, 3) := by decide +kernel
theorem dX11_ends_83 : decode cX11_ends 83 = .ok (.aload_n 0, 1) := by decide +kernel
theorem dX11_ends_84 : decode cX11_ends 84 = .ok (.getfield 7, 3) := by decide +kernel
theorem dX11_ends_87 : decode cX11_ends 87 = .ok (.iload_n 1, 1) := by decide +kernel
theorem dX11_ends_88 : decode cX11_ends 88 = .ok (.iconst 0, 1) := by decide +kernel
theorem dX11_ends_89 : decode cX11_ends 89 = .ok (.iadd, 1) := by decide +kernel
theorem dX11_ends_90 : decode cX11_ends 90 = .ok (.iaload, 1) := by decide +kernel
theorem dX11_ends_91 : decode cX11_ends 91 = .ok (.ireturn, 1) := by decide +kernel
theorem dX11_recover_0 : decode cX11_recover 0 = .ok (.aload_n 0, 1) := by decide +kernel
theorem dX11_recover_1 : decode cX11_recover 1 = .ok (.iload_n 1, 1) := by decide +kernel
theorem dX11_recover_2 : decode cX11_recover 2 = .ok (.invokevirtual 189, 3) := by decide +kernel
theorem dX11_recover_5 : decode cX11_recover 5 = .ok (.ifCond .eq 37, 3) := by decide +kernel
theorem dX11_recover_8 : decode cX11_recover 8 = .ok (.aload_n 0, 1) := by decide +kernel
theorem dX11_recover_9 : decode cX11_recover 9 = .ok (.iload_n 1, 1) := by decide +kernel
theorem dX11_recover_10 : decode cX11_recover 10 = .ok (.invokevirtual 67, 3) := by decide +kernel
theorem dX11_recover_13 : decode cX11_recover 13 = .ok (.ifCond .eq 29, 3) := by decide +kernel
theorem dX11_recover_16 : decode cX11_recover 16 = .ok (.aload_n 0, 1) := by decide +kernel
theorem dX11_recover_17 : decode cX11_recover 17 = .ok (.getfield 7, 3) := by decide +kernel
theorem dX11_recover_20 : decode cX11_recover 20 = .ok (.iload_n 1, 1) := by decide +kernel
theorem dX11_recover_21 : decode cX11_recover 21 = .ok (.invokestatic 62, 3) := by decide +kernel
theorem dX11_recover_24 : decode cX11_recover 24 = .ok (.bipush 7, 2) := by decide +kernel
theorem dX11_recover_26 : decode cX11_recover 26 = .ok (.iadd, 1) := by decide +kernel
theorem dX11_recover_27 : decode cX11_recover 27 = .ok (.iaload, 1) := by decide +kernel
theorem dX11_recover_28 : decode cX11_recover 28 = .ok (.ifCond .eq 14, 3) := by decide +kernel
theorem dX11_recover_31 : decode cX11_recover 31 = .ok (.aload_n 0, 1) := by decide +kernel
theorem dX11_recover_32 : decode cX11_recover 32 = .ok (.iload_n 1, 1) := by decide +kernel
theorem dX11_recover_33 : decode cX11_recover 33 = .ok (.invokestatic 62, 3) := by decide +kernel
theorem dX11_recover_36 : decode cX11_recover 36 = .ok (.invokevirtual 205, 3) := by decide +kernel
theorem dX11_recover_39 : decode cX11_recover 39 = .ok (.ifCond .ne 5, 3) := by decide +kernel
theorem dX11_recover_42 : decode cX11_recover 42 = .ok (.iconst (-1), 1) := by decide +kernel
theorem dX11_recover_43 : decode cX11_recover 43 = .ok (.ireturn, 1) := by decide +kernel
theorem dX11_recover_44 : decode cX11_recover 44 = .ok (.aload_n 0, 1) := by decide +kernel
theorem dX11_recover_45 : decode cX11_recover 45 = .ok (.invokevirtual 86, 3) := by decide +kernel
theorem dX11_recover_48 : decode cX11_recover 48 = .ok (.aload_n 0, 1) := by decide +kernel
theorem dX11_recover_49 : decode cX11_recover 49 = .ok (.iload_n 1, 1) := by decide +kernel
theorem dX11_recover_50 : decode cX11_recover 50 = .ok (.invokestatic 62, 3) := by decide +kernel
theorem dX11_recover_53 : decode cX11_recover 53 = .ok (.invokevirtual 208, 3) := by decide +kernel
theorem dX11_recover_56 : decode cX11_recover 56 = .ok (.ireturn, 1) := by decide +kernel
theorem dX11_give_0 : decode cX11_give 0 = .ok (.aload_n 0, 1) := by decide +kernel
theorem dX11_give_1 : decode cX11_give 1 = .ok (.iload_n 1, 1) := by decide +kernel
theorem dX11_give_2 : decode cX11_give 2 = .ok (.invokevirtual 194, 3) := by decide +kernel
theorem dX11_give_5 : decode cX11_give 5 = .ok (.ifCond .eq 29, 3) := by decide +kernel
theorem dX11_give_8 : decode cX11_give 8 = .ok (.aload_n 0, 1) := by decide +kernel
theorem dX11_give_9 : decode cX11_give 9 = .ok (.getfield 7, 3) := by decide +kernel
theorem dX11_give_12 : decode cX11_give 12 = .ok (.iload_n 1, 1) := by decide +kernel
theorem dX11_give_13 : decode cX11_give 13 = .ok (.invokestatic 62, 3) := by decide +kernel
theorem dX11_give_16 : decode cX11_give 16 = .ok (.iconst 0, 1) := by decide +kernel
theorem dX11_give_17 : decode cX11_give 17 = .ok (.iadd, 1) := by decide +kernel
theorem dX11_give_18 : decode cX11_give 18 = .ok (.iaload, 1) := by decide +kernel
theorem dX11_give_19 : decode cX11_give 19 = .ok (.iconst 4, 1) := by decide +kernel
theorem dX11_give_20 : decode cX11_give 20 = .ok (.if_icmp .eq 14, 3) := by decide +kernel
theorem dX11_give_23 : decode cX11_give 23 = .ok (.aload_n 0, 1) := by decide +kernel
theorem dX11_give_24 : decode cX11_give 24 = .ok (.iload_n 1, 1) := by decide +kernel
theorem dX11_give_25 : decode cX11_give 25 = .ok (.invokestatic 62, 3) := by decide +kernel
theorem dX11_give_28 : decode cX11_give 28 = .ok (.invokevirtual 205, 3) := by decide +kernel
theorem dX11_give_31 : decode cX11_give 31 = .ok (.ifCond .ne 5, 3) := by decide +kernel
theorem dX11_give_34 : decode cX11_give 34 = .ok (.iconst 0, 1) := by decide +kernel
theorem dX11_give_35 : decode cX11_give 35 = .ok (.ireturn, 1) := by decide +kernel
theorem dX11_give_36 : decode cX11_give 36 = .ok (.aload_n 0, 1) := by decide +kernel
theorem dX11_give_37 : decode cX11_give 37 = .ok (.invokevirtual 86, 3) := by decide +kernel
theorem dX11_give_40 : decode cX11_give 40 = .ok (.aload_n 0, 1) := by decide +kernel
theorem dX11_give_41 : decode cX11_give 41 = .ok (.iload_n 1, 1) := by decide +kernel
theorem dX11_give_42 : decode cX11_give 42 = .ok (.invokestatic 62, 3) := by decide +kernel
theorem dX11_give_45 : decode cX11_give 45 = .ok (.invokevirtual 208, 3) := by decide +kernel
theorem dX11_give_48 : decode cX11_give 48 = .ok (.bipush 6, 2) := by decide +kernel
theorem dX11_give_50 : decode cX11_give 50 = .ok (.if_icmp .ne 7, 3) := by decide +kernel
theorem dX11_give_53 : decode cX11_give 53 = .ok (.iconst 1, 1) := by decide +kernel
theorem dX11_give_54 : decode cX11_give 54 = .ok (.goto 4, 3) := by decide +kernel
theorem dX11_give_57 : decode cX11_give 57 = .ok (.iconst 0, 1) := by decide +kernel
theorem dX11_give_58 : decode cX11_give 58 = .ok (.ireturn, 1) := by decide +kernel
theorem dX11_allWeight_0 : decode cX11_allWeight 0 = .ok (.lconst 0, 1) := by decide +kernel
theorem dX11_allWeight_1 : decode cX11_allWeight 1 = .ok (.lstore_n 1, 1) := by decide +kernel
theorem dX11_allWeight_2 : decode cX11_allWeight 2 = .ok (.iconst 0, 1) := by decide +kernel
theorem dX11_allWeight_3 : decode cX11_allWeight 3 = .ok (.istore_n 3, 1) := by decide +kernel
theorem dX11_allWeight_4 : decode cX11_allWeight 4 = .ok (.iload_n 3, 1) := by decide +kernel
theorem dX11_allWeight_5 : decode cX11_allWeight 5 = .ok (.sipush 1000, 3) := by decide +kernel
theorem dX11_allWeight_8 : decode cX11_allWeight 8 = .ok (.if_icmp .ge 22, 3) := by decide +kernel
theorem dX11_allWeight_11 : decode cX11_allWeight 11 = .ok (.lload_n 1, 1) := by decide +kernel
theorem dX11_allWeight_12 : decode cX11_allWeight 12 = .ok (.aload_n 0, 1) := by decide +kernel
theorem dX11_allWeight_13 : decode cX11_allWeight 13 = .ok (.getfield 7, 3) := by decide +kernel
theorem dX11_allWeight_16 : decode cX11_allWeight 16 = .ok (.bipush 106, 2) := by decide +kernel
theorem dX11_allWeight_18 : decode cX11_allWeight 18 = .ok (.iload_n 3, 1) := by decide +kernel
theorem dX11_allWeight_19 : decode cX11_allWeight 19 = .ok (.iadd, 1) := by decide +kernel
theorem dX11_allWeight_20 : decode cX11_allWeight 20 = .ok (.iaload, 1) := by decide +kernel
theorem dX11_allWeight_21 : decode cX11_allWeight 21 = .ok (.i2l, 1) := by decide +kernel
theorem dX11_allWeight_22 : decode cX11_allWeight 22 = .ok (.ladd, 1) := by decide +kernel
theorem dX11_allWeight_23 : decode cX11_allWeight 23 = .ok (.lstore_n 1, 1) := by decide +kernel
theorem dX11_allWeight_24 : decode cX11_allWeight 24 = .ok (.iinc 3 1, 3) := by decide +kernel
theorem dX11_allWeight_27 : decode cX11_allWeight 27 = .ok (.goto (-23), 3) := by decide +kernel
theorem dX11_allWeight_30 : decode cX11_allWeight 30 = .ok (.lload_n 1, 1) := by decide +kernel
theorem dX11_allWeight_31 : decode cX11_allWeight 31 = .ok (.lreturn, 1) := by decide +kernel
theorem dX11_age_0 : decode cX11_age 0 = .ok (.aload_n 0, 1) := by decide +kernel
theorem dX11_age_1 : decode cX11_age 1 = .ok (.invokevirtual 86, 3) := by decide +kernel
theorem dX11_age_4 : decode cX11_age 4 = .ok (.iconst 0, 1) := by decide +kernel
theorem dX11_age_5 : decode cX11_age 5 = .ok (.istore_n 1, 1) := by decide +kernel
theorem dX11_age_6 : decode cX11_age 6 = .ok (.iload_n 1, 1) := by decide +kernel
theorem dX11_age_7 : decode cX11_age 7 = .ok (.sipush 1000, 3) := by decide +kernel
theorem dX11_age_10 : decode cX11_age 10 = .ok (.if_icmp .ge 22, 3) := by decide +kernel
theorem dX11_age_13 : decode cX11_age 13 = .ok (.aload_n 0, 1) := by decide +kernel
theorem dX11_age_14 : decode cX11_age 14 = .ok (.getfield 7, 3) := by decide +kernel
theorem dX11_age_17 : decode cX11_age 17 = .ok (.bipush 106, 2) := by decide +kernel
theorem dX11_age_19 : decode cX11_age 19 = .ok (.iload_n 1, 1) := by decide +kernel
theorem dX11_age_20 : decode cX11_age 20 = .ok (.iadd, 1) := by decide +kernel
theorem dX11_age_21 : decode cX11_age 21 = .ok (.dup2, 1) := by decide +kernel
theorem dX11_age_22 : decode cX11_age 22 = .ok (.iaload, 1) := by decide +kernel
theorem dX11_age_23 : decode cX11_age 23 = .ok (.iconst 2, 1) := by decide +kernel
theorem dX11_age_24 : decode cX11_age 24 = .ok (.idiv, 1) := by decide +kernel
theorem dX11_age_25 : decode cX11_age 25 = .ok (.iastore, 1) := by decide +kernel
theorem dX11_age_26 : decode cX11_age 26 = .ok (.iinc 1 1, 3) := by decide +kernel
theorem dX11_age_29 : decode cX11_age 29 = .ok (.goto (-23), 3) := by decide +kernel
theorem dX11_age_32 : decode cX11_age 32 = .ok (.aload_n 0, 1) := by decide +kernel
theorem dX11_age_33 : decode cX11_age 33 = .ok (.invokevirtual 211, 3) := by decide +kernel
theorem dX11_age_36 : decode cX11_age 36 = .ok (.lreturn, 1) := by decide +kernel
theorem dX11_chunk_0 : decode cX11_chunk 0 = .ok (.iload_n 1, 1) := by decide +kernel
theorem dX11_chunk_1 : decode cX11_chunk 1 = .ok (.i2l, 1) := by decide +kernel
theorem dX11_chunk_2 : decode cX11_chunk 2 = .ok (.lconst 1, 1) := by decide +kernel
theorem dX11_chunk_3 : decode cX11_chunk 3 = .ok (.ldc2_w 215, 3) := by decide +kernel
theorem dX11_chunk_6 : decode cX11_chunk 6 = .ok (.invokestatic 45, 3) := by decide +kernel
theorem dX11_chunk_9 : decode cX11_chunk 9 = .ok (.ifCond .ne 5, 3) := by decide +kernel
theorem dX11_chunk_12 : decode cX11_chunk 12 = .ok (.iconst 0, 1) := by decide +kernel
theorem dX11_chunk_13 : decode cX11_chunk 13 = .ok (.ireturn, 1) := by decide +kernel
theorem dX11_chunk_14 : decode cX11_chunk 14 = .ok (.aload_n 0, 1) := by decide +kernel
theorem dX11_chunk_15 : decode cX11_chunk 15 = .ok (.invokevirtual 124, 3) := by decide +kernel
theorem dX11_chunk_18 : decode cX11_chunk 18 = .ok (.aload_n 0, 1) := by decide +kernel
theorem dX11_chunk_19 : decode cX11_chunk 19 = .ok (.getfield 7, 3) := by decide +kernel
theorem dX11_chunk_22 : decode cX11_chunk 22 = .ok (.iconst 2, 1) := by decide +kernel
theorem dX11_chunk_23 : decode cX11_chunk 23 = .ok (.iload_n 1, 1) := by decide +kernel
theorem dX11_chunk_24 : decode cX11_chunk 24 = .ok (.iastore, 1) := by decide +kernel
theorem dX11_chunk_25 : decode cX11_chunk 25 = .ok (.iconst 1, 1) := by decide +kernel
theorem dX11_chunk_26 : decode cX11_chunk 26 = .ok (.ireturn, 1) := by decide +kernel
theorem dX11_comes_0 : decode cX11_comes 0 = .ok (.bipush 24, 2) := by decide +kernel
theorem dX11_comes_2 : decode cX11_comes 2 = .ok (.istore_n 2, 1) := by decide +kernel
theorem dX11_comes_3 : decode cX11_comes 3 = .ok (.iload_n 2, 1) := by decide +kernel
theorem dX11_comes_4 : decode cX11_comes 4 = .ok (.ifCond .lt 32, 3) := by decide +kernel
theorem dX11_comes_7 : decode cX11_comes 7 = .ok (.aload_n 0, 1) := by decide +kernel
theorem dX11_comes_8 : decode cX11_comes 8 = .ok (.getfield 29, 3) := by decide +kernel
theorem dX11_comes_11 : decode cX11_comes 11 = .ok (.aload_n 0, 1) := by decide +kernel
theorem dX11_comes_12 : decode cX11_comes 12 = .ok (.getfield 217, 3) := by decide +kernel
theorem dX11_comes_15 : decode cX11_comes 15 = .ok (.iload_n 1, 1) := by decide +kernel
theorem dX11_comes_16 : decode cX11_comes 16 = .ok (.iload_n 2, 1) := by decide +kernel
theorem dX11_comes_17 : decode cX11_comes 17 = .ok (.iushr, 1) := by decide +kernel
theorem dX11_comes_18 : decode cX11_comes 18 = .ok (.i2b, 1) := by decide +kernel
theorem dX11_comes_19 : decode cX11_comes 19 = .ok (.bastore, 1) := by decide +kernel
theorem dX11_comes_20 : decode cX11_comes 20 = .ok (.aload_n 0, 1) := by decide +kernel
theorem dX11_comes_21 : decode cX11_comes 21 = .ok (.dup, 1) := by decide +kernel
theorem dX11_comes_22 : decode cX11_comes 22 = .ok (.getfield 217, 3) := by decide +kernel
theorem dX11_comes_25 : decode cX11_comes 25 = .ok (.iconst 1, 1) := by decide +kernel
theorem dX11_comes_26 : decode cX11_comes 26 = .ok (.iadd, 1) := by decide +kernel
theorem dX11_comes_27 : decode cX11_comes 27 = .ok (.putfield 217, 3) := by decide +kernel
theorem dX11_comes_30 : decode cX11_comes 30 = .ok (.iinc 2 (-8), 3) := by decide +kernel
theorem dX11_comes_33 : decode cX11_comes 33 = .ok (.goto (-30), 3) := by decide +kernel
theorem dX11_comes_36 : decode cX11_comes 36 = .ok (.return_, 1) := by decide +kernel
theorem dX11_feed_0 : decode cX11_feed 0 = .ok (.aload_n 0, 1) := by decide +kernel
theorem dX11_feed_1 : decode cX11_feed 1 = .ok (.getfield 217, 3) := by decide +kernel
theorem dX11_feed_4 : decode cX11_feed 4 = .ok (.bipush 20, 2) := by decide +kernel
theorem dX11_feed_6 : decode cX11_feed 6 = .ok (.iadd, 1) := by decide +kernel
theorem dX11_feed_7 : decode cX11_feed 7 = .ok (.sipush 400, 3) := by decide +kernel
theorem dX11_feed_10 : decode cX11_feed 10 = .ok (.if_icmp .le 5, 3) := by decide +kernel
theorem dX11_feed_13 : decode cX11_feed 13 = .ok (.iconst (-1), 1) := by decide +kernel
theorem dX11_feed_14 : decode cX11_feed 14 = .ok (.ireturn, 1) := by decide +kernel
theorem dX11_feed_15 : decode cX11_feed 15 = .ok (.aload_n 0, 1) := by decide +kernel
theorem dX11_feed_16 : decode cX11_feed 16 = .ok (.iload_n 1, 1) := by decide +kernel
theorem dX11_feed_17 : decode cX11_feed 17 = .ok (.invokevirtual 220, 3) := by decide +kernel
theorem dX11_feed_20 : decode cX11_feed 20 = .ok (.aload_n 0, 1) := by decide +kernel
theorem dX11_feed_21 : decode cX11_feed 21 = .ok (.iload_n 2, 1) := by decide +kernel
theorem dX11_feed_22 : decode cX11_feed 22 = .ok (.invokevirtual 220, 3) := by decide +kernel
theorem dX11_feed_25 : decode cX11_feed 25 = .ok (.aload_n 0, 1) := by decide +kernel
theorem dX11_feed_26 : decode cX11_feed 26 = .ok (.iload_n 3, 1) := by decide +kernel
theorem dX11_feed_27 : decode cX11_feed 27 = .ok (.invokevirtual 220, 3) := by decide +kernel
theorem dX11_feed_30 : decode cX11_feed 30 = .ok (.aload_n 0, 1) := by decide +kernel
theorem dX11_feed_31 : decode cX11_feed 31 = .ok (.iload 4, 2) := by decide +kernel
theorem dX11_feed_33 : decode cX11_feed 33 = .ok (.invokevirtual 220, 3) := by decide +kernel
theorem dX11_feed_36 : decode cX11_feed 36 = .ok (.aload_n 0, 1) := by decide +kernel
theorem dX11_feed_37 : decode cX11_feed 37 = .ok (.iload 5, 2) := by decide +kernel
theorem dX11_feed_39 : decode cX11_feed 39 = .ok (.invokevirtual 220, 3) := by decide +kernel
theorem dX11_feed_42 : decode cX11_feed 42 = .ok (.aload_n 0, 1) := by decide +kernel
theorem dX11_feed_43 : decode cX11_feed 43 = .ok (.getfield 217, 3) := by decide +kernel
theorem dX11_feed_46 : decode cX11_feed 46 = .ok (.ireturn, 1) := by decide +kernel
theorem dX11_end_0 : decode cX11_end 0 = .ok (.iload_n 1, 1) := by decide +kernel
theorem dX11_end_1 : decode cX11_end 1 = .ok (.i2l, 1) := by decide +kernel
theorem dX11_end_2 : decode cX11_end 2 = .ok (.lconst 0, 1) := by decide +kernel
theorem dX11_end_3 : decode cX11_end 3 = .ok (.aload_n 0, 1) := by decide +kernel
theorem dX11_end_4 : decode cX11_end 4 = .ok (.getfield 217, 3) := by decide +kernel
theorem dX11_end_7 : decode cX11_end 7 = .ok (.i2l, 1) := by decide +kernel
theorem dX11_end_8 : decode cX11_end 8 = .ok (.invokestatic 45, 3) := by decide +kernel
theorem dX11_end_11 : decode cX11_end 11 = .ok (.ifCond .ne 5, 3) := by decide +kernel
theorem dX11_end_14 : decode cX11_end 14 = .ok (.iconst 0, 1) := by decide +kernel
theorem dX11_end_15 : decode cX11_end 15 = .ok (.ireturn, 1) := by decide +kernel
theorem dX11_end_16 : decode cX11_end 16 = .ok (.aload_n 0, 1) := by decide +kernel
theorem dX11_end_17 : decode cX11_end 17 = .ok (.iload_n 1, 1) := by decide +kernel
theorem dX11_end_18 : decode cX11_end 18 = .ok (.putfield 217, 3) := by decide +kernel
theorem dX11_end_21 : decode cX11_end 21 = .ok (.iconst 1, 1) := by decide +kernel
theorem dX11_end_22 : decode cX11_end 22 = .ok (.ireturn, 1) := by decide +kernel
theorem dX11_wrong_0 : decode cX11_wrong 0 = .ok (.aload_n 0, 1) := by decide +kernel
theorem dX11_wrong_1 : decode cX11_wrong 1 = .ok (.getfield 223, 3) := by decide +kernel
theorem dX11_wrong_4 : decode cX11_wrong 4 = .ok (.ifCond .eq 4, 3) := by decide +kernel
theorem dX11_wrong_7 : decode cX11_wrong 7 = .ok (.return_, 1) := by decide +kernel
theorem dX11_wrong_8 : decode cX11_wrong 8 = .ok (.aload_n 0, 1) := by decide +kernel
theorem dX11_wrong_9 : decode cX11_wrong 9 = .ok (.iconst 1, 1) := by decide +kernel
theorem dX11_wrong_10 : decode cX11_wrong 10 = .ok (.putfield 223, 3) := by decide +kernel
theorem dX11_wrong_13 : decode cX11_wrong 13 = .ok (.aload_n 0, 1) := by decide +kernel
theorem dX11_wrong_14 : decode cX11_wrong 14 = .ok (.iload_n 1, 1) := by decide +kernel
theorem dX11_wrong_15 : decode cX11_wrong 15 = .ok (.putfield 226, 3) := by decide +kernel
theorem dX11_wrong_18 : decode cX11_wrong 18 = .ok (.aload_n 0, 1) := by decide +kernel
theorem dX11_wrong_19 : decode cX11_wrong 19 = .ok (.iload_n 2, 1) := by decide +kernel
theorem dX11_wrong_20 : decode cX11_wrong 20 = .ok (.putfield 33, 3) := by decide +kernel
theorem dX11_wrong_23 : decode cX11_wrong 23 = .ok (.return_, 1) := by decide +kernel
theorem dX11_blanks_0 : decode cX11_blanks 0 = .ok (.aload_n 0, 1) := by decide +kernel
theorem dX11_blanks_1 : decode cX11_blanks 1 = .ok (.getfield 229, 3) := by decide +kernel
theorem dX11_blanks_4 : decode cX11_blanks 4 = .ok (.aload_n 0, 1) := by decide +kernel
theorem dX11_blanks_5 : decode cX11_blanks 5 = .ok (.getfield 217, 3) := by decide +kernel
theorem dX11_blanks_8 : decode cX11_blanks 8 = .ok (.if_icmp .ge 30, 3) := by decide +kernel
theorem dX11_blanks_11 : decode cX11_blanks 11 = .ok (.aload_n 0, 1) := by decide +kernel
theorem dX11_blanks_12 : decode cX11_blanks 12 = .ok (.getfield 29, 3) := by decide +kernel
theorem dX11_blanks_15 : decode cX11_blanks 15 = .ok (.aload_n 0, 1) := by decide +kernel
theorem dX11_blanks_16 : decode cX11_blanks 16 = .ok (.getfield 229, 3) := by decide +kernel
theorem dX11_blanks_19 : decode cX11_blanks 19 = .ok (.baload, 1) := by decide +kernel
theorem dX11_blanks_20 : decode cX11_blanks 20 = .ok (.bipush 32, 2) := by decide +kernel
theorem dX11_blanks_22 : decode cX11_blanks 22 = .ok (.if_icmp .ne 16, 3) := by decide +kernel
theorem dX11_blanks_25 : decode cX11_blanks 25 = .ok (.aload_n 0, 1) := by decide +kernel
theorem dX11_blanks_26 : decode cX11_blanks 26 = .ok (.dup, 1) := by decide +kernel
theorem dX11_blanks_27 : decode cX11_blanks 27 = .ok (.getfield 229, 3) := by decide +kernel
theorem dX11_blanks_30 : decode cX11_blanks 30 = .ok (.iconst 1, 1) := by decide +kernel
theorem dX11_blanks_31 : decode cX11_blanks 31 = .ok (.iadd, 1) := by decide +kernel
theorem dX11_blanks_32 : decode cX11_blanks 32 = .ok (.putfield 229, 3) := by decide +kernel
theorem dX11_blanks_35 : decode cX11_blanks 35 = .ok (.goto (-35), 3) := by decide +kernel
theorem dX11_blanks_38 : decode cX11_blanks 38 = .ok (.return_, 1) := by decide +kernel
theorem dX11_wordEnd_0 : decode cX11_wordEnd 0 = .ok (.aload_n 0, 1) := by decide +kernel
theorem dX11_wordEnd_1 : decode cX11_wordEnd 1 = .ok (.getfield 229, 3) := by decide +kernel
theorem dX11_wordEnd_4 : decode cX11_wordEnd 4 = .ok (.istore_n 1, 1) := by decide +kernel
theorem dX11_wordEnd_5 : decode cX11_wordEnd 5 = .ok (.iload_n 1, 1) := by decide +kernel
theorem dX11_wordEnd_6 : decode cX11_wordEnd 6 = .ok (.aload_n 0, 1) := by decide +kernel
theorem dX11_wordEnd_7 : decode cX11_wordEnd 7 = .ok (.getfield 217, 3) := by decide +kernel
theorem dX11_wordEnd_10 : decode cX11_wordEnd 10 = .ok (.if_icmp .ge 28, 3) := by decide +kernel
theorem dX11_wordEnd_13 : decode cX11_wordEnd 13 = .ok (.aload_n 0, 1) := by decide +kernel
theorem dX11_wordEnd_14 : decode cX11_wordEnd 14 = .ok (.getfield 29, 3) := by decide +kernel
theorem dX11_wordEnd_17 : decode cX11_wordEnd 17 = .ok (.iload_n 1, 1) := by decide +kernel
theorem dX11_wordEnd_18 : decode cX11_wordEnd 18 = .ok (.baload, 1) := by decide +kernel
theorem dX11_wordEnd_19 : decode cX11_wordEnd 19 = .ok (.i2l, 1) := by decide +kernel
theorem dX11_wordEnd_20 : decode cX11_wordEnd 20 = .ok (.ldc2_w 232, 3) := by decide +kernel
theorem dX11_wordEnd_23 : decode cX11_wordEnd 23 = .ok (.ldc2_w 234, 3) := by decide +kernel
theorem dX11_wordEnd_26 : decode cX11_wordEnd 26 = .ok (.invokestatic 45, 3) := by decide +kernel
theorem dX11_wordEnd_29 : decode cX11_wordEnd 29 = .ok (.ifCond .eq 9, 3) := by decide +kernel
theorem dX11_wordEnd_32 : decode cX11_wordEnd 32 = .ok (.iinc 1 1, 3) := by decide +kernel
theorem dX11_wordEnd_35 : decode cX11_wordEnd 35 = .ok (.goto (-30), 3) := by decide +kernel
theorem dX11_wordEnd_38 : decode cX11_wordEnd 38 = .ok (.iload_n 1, 1) := by decide +kernel
theorem dX11_wordEnd_39 : decode cX11_wordEnd 39 = .ok (.ireturn, 1) := by decide +kernel
theorem dX11_spells_0 : decode cX11_spells 0 = .ok (.aload_n 0, 1) := by decide +kernel
theorem dX11_spells_1 : decode cX11_spells 1 = .ok (.invokevirtual 236, 3) := by decide +kernel
theorem dX11_spells_4 : decode cX11_spells 4 = .ok (.aload_n 0, 1) := by decide +kernel
theorem dX11_spells_5 : decode cX11_spells 5 = .ok (.getfield 229, 3) := by decide +kernel
theorem dX11_spells_8 : decode cX11_spells 8 = .ok (.iload_n 1, 1) := by decide +kernel
theorem dX11_spells_9 : decode cX11_spells 9 = .ok (.iadd, 1) := by decide +kernel
theorem dX11_spells_10 : decode cX11_spells 10 = .ok (.if_icmp .ne 52, 3) := by decide +kernel
theorem dX11_spells_13 : decode cX11_spells 13 = .ok (.aload_n 0, 1) := by decide +kernel
theorem dX11_spells_14 : decode cX11_spells 14 = .ok (.getfield 29, 3) := by decide +kernel
theorem dX11_spells_17 : decode cX11_spells 17 = .ok (.aload_n 0, 1) := by decide +kernel
theorem dX11_spells_18 : decode cX11_spells 18 = .ok (.getfield 229, 3) := by decide +kernel
theorem dX11_spells_21 : decode cX11_spells 21 = .ok (.baload, 1) := by decide +kernel
theorem dX11_spells_22 : decode cX11_spells 22 = .ok (.iload_n 2, 1) := by decide +kernel
theorem dX11_spells_23 : decode cX11_spells 23 = .ok (.if_icmp .ne 39, 3) := by decide +kernel
theorem dX11_spells_26 : decode cX11_spells 26 = .ok (.aload_n 0, 1) := by decide +kernel
theorem dX11_spells_27 : decode cX11_spells 27 = .ok (.getfield 29, 3) := by decide +kernel
theorem dX11_spells_30 : decode cX11_spells 30 = .ok (.aload_n 0, 1) := by decide +kernel
theorem dX11_spells_31 : decode cX11_spells 31 = .ok (.getfield 229, 3) := by decide +kernel
theorem dX11_spells_34 : decode cX11_spells 34 = .ok (.iconst 1, 1) := by decide +kernel
theorem dX11_spells_35 : decode cX11_spells 35 = .ok (.iadd, 1) := by decide +kernel
theorem dX11_spells_36 : decode cX11_spells 36 = .ok (.baload, 1) := by decide +kernel
theorem dX11_spells_37 : decode cX11_spells 37 = .ok (.iload_n 3, 1) := by decide +kernel
theorem dX11_spells_38 : decode cX11_spells 38 = .ok (.if_icmp .ne 24, 3) := by decide +kernel
theorem dX11_spells_41 : decode cX11_spells 41 = .ok (.iload_n 1, 1) := by decide +kernel
theorem dX11_spells_42 : decode cX11_spells 42 = .ok (.iconst 2, 1) := by decide +kernel
theorem dX11_spells_43 : decode cX11_spells 43 = .ok (.if_icmp .le 21, 3) := by decide +kernel
theorem dX11_spells_46 : decode cX11_spells 46 = .ok (.aload_n 0, 1) := by decide +kernel
theorem dX11_spells_47 : decode cX11_spells 47 = .ok (.getfield 29, 3) := by decide +kernel
theorem dX11_spells_50 : decode cX11_spells 50 = .ok (.aload_n 0, 1) := by decide +kernel
theorem dX11_spells_51 : decode cX11_spells 51 = .ok (.getfield 229, 3) := by decide +kernel
theorem dX11_spells_54 : decode cX11_spells 54 = .ok (.iconst 2, 1) := by decide +kernel
theorem dX11_spells_55 : decode cX11_spells 55 = .ok (.iadd, 1) := by decide +kernel
theorem dX11_spells_56 : decode cX11_spells 56 = .ok (.baload, 1) := by decide +kernel
theorem dX11_spells_57 : decode cX11_spells 57 = .ok (.iload 4, 2) := by decide +kernel
theorem dX11_spells_59 : decode cX11_spells 59 = .ok (.if_icmp .eq 5, 3) := by decide +kernel
theorem dX11_spells_62 : decode cX11_spells 62 = .ok (.iconst 0, 1) := by decide +kernel
theorem dX11_spells_63 : decode cX11_spells 63 = .ok (.ireturn, 1) := by decide +kernel
theorem dX11_spells_64 : decode cX11_spells 64 = .ok (.iload_n 1, 1) := by decide +kernel
theorem dX11_spells_65 : decode cX11_spells 65 = .ok (.iconst 3, 1) := by decide +kernel
theorem dX11_spells_66 : decode cX11_spells 66 = .ok (.if_icmp .le 19, 3) := by decide +kernel
theorem dX11_spells_69 : decode cX11_spells 69 = .ok (.aload_n 0, 1) := by decide +kernel
theorem dX11_spells_70 : decode cX11_spells 70 = .ok (.getfield 29, 3) := by decide +kernel
theorem dX11_spells_73 : decode cX11_spells 73 = .ok (.aload_n 0, 1) := by decide +kernel
theorem dX11_spells_74 : decode cX11_spells 74 = .ok (.getfield 229, 3) := by decide +kernel
theorem dX11_spells_77 : decode cX11_spells 77 = .ok (.iconst 3, 1) := by decide +kernel
theorem dX11_spells_78 : decode cX11_spells 78 = .ok (.iadd, 1) := by decide +kernel
theorem dX11_spells_79 : decode cX11_spells 79 = .ok (.baload, 1) := by decide +kernel
theorem dX11_spells_80 : decode cX11_spells 80 = .ok (.iload 5, 2) := by decide +kernel
theorem dX11_spells_82 : decode cX11_spells 82 = .ok (.if_icmp .ne 24, 3) := by decide +kernel
theorem dX11_spells_85 : decode cX11_spells 85 = .ok (.iload_n 1, 1) := by decide +kernel
theorem dX11_spells_86 : decode cX11_spells 86 = .ok (.iconst 4, 1) := by decide +kernel
theorem dX11_spells_87 : decode cX11_spells 87 = .ok (.if_icmp .le 21, 3) := by decide +kernel
theorem dX11_spells_90 : decode cX11_spells 90 = .ok (.aload_n 0, 1) := by decide +kernel
theorem dX11_spells_91 : decode cX11_spells 91 = .ok (.getfield 29, 3) := by decide +kernel
theorem dX11_spells_94 : decode cX11_spells 94 = .ok (.aload_n 0, 1) := by decide +kernel
theorem dX11_spells_95 : decode cX11_spells 95 = .ok (.getfield 229, 3) := by decide +kernel
theorem dX11_spells_98 : decode cX11_spells 98 = .ok (.iconst 4, 1) := by decide +kernel
theorem dX11_spells_99 : decode cX11_spells 99 = .ok (.iadd, 1) := by decide +kernel
theorem dX11_spells_100 : decode cX11_spells 100 = .ok (.baload, 1) := by decide +kernel
theorem dX11_spells_101 : decode cX11_spells 101 = .ok (.iload 6, 2) := by decide +kernel
theorem dX11_spells_103 : decode cX11_spells 103 = .ok (.if_icmp .eq 5, 3) := by decide +kernel
theorem dX11_spells_106 : decode cX11_spells 106 = .ok (.iconst 0, 1) := by decide +kernel
theorem dX11_spells_107 : decode cX11_spells 107 = .ok (.ireturn, 1) := by decide +kernel
theorem dX11_spells_108 : decode cX11_spells 108 = .ok (.iload_n 1, 1) := by decide +kernel
theorem dX11_spells_109 : decode cX11_spells 109 = .ok (.bipush 6, 2) := by decide +kernel
theorem dX11_spells_111 : decode cX11_spells 111 = .ok (.if_icmp .lt 19, 3) := by decide +kernel
theorem dX11_spells_114 : decode cX11_spells 114 = .ok (.aload_n 0, 1) := by decide +kernel
theorem dX11_spells_115 : decode cX11_spells 115 = .ok (.getfield 29, 3) := by decide +kernel
theorem dX11_spells_118 : decode cX11_spells 118 = .ok (.aload_n 0, 1) := by decide +kernel
theorem dX11_spells_119 : decode cX11_spells 119 = .ok (.getfield 229, 3) := by decide +kernel
theorem dX11_spells_122 : decode cX11_spells 122 = .ok (.iconst 5, 1) := by decide +kernel
theorem dX11_spells_123 : decode cX11_spells 123 = .ok (.iadd, 1) := by decide +kernel
theorem dX11_spells_124 : decode cX11_spells 124 = .ok (.baload, 1) := by decide +kernel
theorem dX11_spells_125 : decode cX11_spells 125 = .ok (.iload 7, 2) := by decide +kernel
theorem dX11_spells_127 : decode cX11_spells 127 = .ok (.if_icmp .ne 30, 3) := by decide +kernel
theorem dX11_spells_130 : decode cX11_spells 130 = .ok (.iload_n 1, 1) := by decide +kernel
theorem dX11_spells_131 : decode cX11_spells 131 = .ok (.bipush 7, 2) := by decide +kernel
theorem dX11_spells_133 : decode cX11_spells 133 = .ok (.if_icmp .lt 20, 3) := by decide +kernel
theorem dX11_spells_136 : decode cX11_spells 136 = .ok (.aload_n 0, 1) := by decide +kernel
theorem dX11_spells_137 : decode cX11_spells 137 = .ok (.getfield 29, 3) := by decide +kernel
theorem dX11_spells_140 : decode cX11_spells 140 = .ok (.aload_n 0, 1) := by decide +kernel
theorem dX11_spells_141 : decode cX11_spells 141 = .ok (.getfield 229, 3) := by decide +kernel
theorem dX11_spells_144 : decode cX11_spells 144 = .ok (.bipush 6, 2) := by decide +kernel
theorem dX11_spells_146 : decode cX11_spells 146 = .ok (.iadd, 1) := by decide +kernel
theorem dX11_spells_147 : decode cX11_spells 147 = .ok (.baload, 1) := by decide +kernel
theorem dX11_spells_148 : decode cX11_spells 148 = .ok (.iload 8, 2) := by decide +kernel
theorem dX11_spells_150 : decode cX11_spells 150 = .ok (.if_icmp .ne 7, 3) := by decide +kernel
theorem dX11_spells_153 : decode cX11_spells 153 = .ok (.iconst 1, 1) := by decide +kernel
theorem dX11_spells_154 : decode cX11_spells 154 = .ok (.goto 4, 3) := by decide +kernel
theorem dX11_spells_157 : decode cX11_spells 157 = .ok (.iconst 0, 1) := by decide +kernel
theorem dX11_spells_158 : decode cX11_spells 158 = .ok (.ireturn, 1) := by decide +kernel
theorem dX11_word_0 : decode cX11_word 0 = .ok (.aload_n 0, 1) := by decide +kernel
theorem dX11_word_1 : decode cX11_word 1 = .ok (.iconst 5, 1) := by decide +kernel
theorem dX11_word_2 : decode cX11_word 2 = .ok (.bipush 102, 2) := by decide +kernel
theorem dX11_word_4 : decode cX11_word 4 = .ok (.bipush 101, 2) := by decide +kernel
theorem dX11_word_6 : decode cX11_word 6 = .ok (.bipush 116, 2) := by decide +kernel
theorem dX11_word_8 : decode cX11_word 8 = .ok (.bipush 99, 2) := by decide +kernel
theorem dX11_word_10 : decode cX11_word 10 = .ok (.bipush 104, 2) := by decide +kernel
theorem dX11_word_12 : decode cX11_word 12 = .ok (.iconst 0, 1) := by decide +kernel
theorem dX11_word_13 : decode cX11_word 13 = .ok (.iconst 0, 1) := by decide +kernel
theorem dX11_word_14 : decode cX11_word 14 = .ok (.invokevirtual 239, 3) := by decide +kernel
theorem dX11_word_17 : decode cX11_word 17 = .ok (.ifCond .eq 5, 3) := by decide +kernel
theorem dX11_word_20 : decode cX11_word 20 = .ok (.iconst 0, 1) := by decide +kernel
theorem dX11_word_21 : decode cX11_word 21 = .ok (.ireturn, 1) := by decide +kernel
theorem dX11_word_22 : decode cX11_word 22 = .ok (.aload_n 0, 1) := by decide +kernel
theorem dX11_word_23 : decode cX11_word 23 = .ok (.iconst 4, 1) := by decide +kernel
theorem dX11_word_24 : decode cX11_word 24 = .ok (.bipush 114, 2) := by decide +kernel
theorem dX11_word_26 : decode cX11_word 26 = .ok (.bipush 101, 2) := by decide +kernel
theorem dX11_word_28 : decode cX11_word 28 = .ok (.bipush 97, 2) := by decide +kernel
theorem dX11_word_30 : decode cX11_word 30 = .ok (.bipush 100, 2) := by decide +kernel
theorem dX11_word_32 : decode cX11_word 32 = .ok (.iconst 0, 1) := by decide +kernel
theorem dX11_word_33 : decode cX11_word 33 = .ok (.iconst 0, 1) := by decide +kernel
theorem dX11_word_34 : decode cX11_word 34 = .ok (.iconst 0, 1) := by decide +kernel
theorem dX11_word_35 : decode cX11_word 35 = .ok (.invokevirtual 239, 3) := by decide +kernel
theorem dX11_word_38 : decode cX11_word 38 = .ok (.ifCond .eq 5, 3) := by decide +kernel
theorem dX11_word_41 : decode cX11_word 41 = .ok (.iconst 1, 1) := by decide +kernel
theorem dX11_word_42 : decode cX11_word 42 = .ok (.ireturn, 1) := by decide +kernel
theorem dX11_word_43 : decode cX11_word 43 = .ok (.aload_n 0, 1) := by decide +kernel
theorem dX11_word_44 : decode cX11_word 44 = .ok (.iconst 5, 1) := by decide +kernel
theorem dX11_word_45 : decode cX11_word 45 = .ok (.bipush 119, 2) := by decide +kernel
theorem dX11_word_47 : decode cX11_word 47 = .ok (.bipush 114, 2) := by decide +kernel
theorem dX11_word_49 : decode cX11_word 49 = .ok (.bipush 105, 2) := by decide +kernel
theorem dX11_word_51 : decode cX11_word 51 = .ok (.bipush 116, 2) := by decide +kernel
theorem dX11_word_53 : decode cX11_word 53 = .ok (.bipush 101, 2) := by decide +kernel
theorem dX11_word_55 : decode cX11_word 55 = .ok (.iconst 0, 1) := by decide +kernel
theorem dX11_word_56 : decode cX11_word 56 = .ok (.iconst 0, 1) := by decide +kernel
theorem dX11_word_57 : decode cX11_word 57 = .ok (.invokevirtual 239, 3) := by decide +kernel
theorem dX11_word_60 : decode cX11_word 60 = .ok (.ifCond .eq 5, 3) := by decide +kernel
theorem dX11_word_63 : decode cX11_word 63 = .ok (.iconst 2, 1) := by decide +kernel
theorem dX11_word_64 : decode cX11_word 64 = .ok (.ireturn, 1) := by decide +kernel
theorem dX11_word_65 : decode cX11_word 65 = .ok (.aload_n 0, 1) := by decide +kernel
theorem dX11_word_66 : decode cX11_word 66 = .ok (.iconst 5, 1) := by decide +kernel
theorem dX11_word_67 : decode cX11_word 67 = .ok (.bipush 115, 2) := by decide +kernel
theorem dX11_word_69 : decode cX11_word 69 = .ok (.bipush 112, 2) := by decide +kernel
theorem dX11_word_71 : decode cX11_word 71 = .ok (.bipush 108, 2) := by decide +kernel
theorem dX11_word_73 : decode cX11_word 73 = .ok (.bipush 105, 2) := by decide +kernel
theorem dX11_word_75 : decode cX11_word 75 = .ok (.bipush 116, 2) := by decide +kernel
theorem dX11_word_77 : decode cX11_word 77 = .ok (.iconst 0, 1) := by decide +kernel
theorem dX11_word_78 : decode cX11_word 78 = .ok (.iconst 0, 1) := by decide +kernel
theorem dX11_word_79 : decode cX11_word 79 = .ok (.invokevirtual 239, 3) := by decide +kernel
theorem dX11_word_82 : decode cX11_word 82 = .ok (.ifCond .eq 5, 3) := by decide +kernel
theorem dX11_word_85 : decode cX11_word 85 = .ok (.iconst 3, 1) := by decide +kernel
theorem dX11_word_86 : decode cX11_word 86 = .ok (.ireturn, 1) := by decide +kernel
theorem dX11_word_87 : decode cX11_word 87 = .ok (.aload_n 0, 1) := by decide +kernel
theorem dX11_word_88 : decode cX11_word 88 = .ok (.bipush 6, 2) := by decide +kernel
theorem dX11_word_90 : decode cX11_word 90 = .ok (.bipush 109, 2) := by decide +kernel
theorem dX11_word_92 : decode cX11_word 92 = .ok (.bipush 105, 2) := by decide +kernel
theorem dX11_word_94 : decode cX11_word 94 = .ok (.bipush 100, 2) := by decide +kernel
theorem dX11_word_96 : decode cX11_word 96 = .ok (.bipush 100, 2) := by decide +kernel
theorem dX11_word_98 : decode cX11_word 98 = .ok (.bipush 108, 2) := by decide +kernel
theorem dX11_word_100 : decode cX11_word 100 = .ok (.bipush 101, 2) := by decide +kernel
theorem dX11_word_102 : decode cX11_word 102 = .ok (.iconst 0, 1) := by decide +kernel
theorem dX11_word_103 : decode cX11_word 103 = .ok (.invokevirtual 239, 3) := by decide +kernel
theorem dX11_word_106 : decode cX11_word 106 = .ok (.ifCond .eq 5, 3) := by decide +kernel
theorem dX11_word_109 : decode cX11_word 109 = .ok (.iconst 4, 1) := by decide +kernel
theorem dX11_word_110 : decode cX11_word 110 = .ok (.ireturn, 1) := by decide +kernel
theorem dX11_word_111 : decode cX11_word 111 = .ok (.aload_n 0, 1) := by decide +kernel
theorem dX11_word_112 : decode cX11_word 112 = .ok (.iconst 4, 1) := by decide +kernel
theorem dX11_word_113 : decode cX11_word 113 = .ok (.bipush 106, 2) := by decide +kernel
theorem dX11_word_115 : decode cX11_word 115 = .ok (.bipush 111, 2) := by decide +kernel
theorem dX11_word_117 : decode cX11_word 117 = .ok (.bipush 105, 2) := by decide +kernel
theorem dX11_word_119 : decode cX11_word 119 = .ok (.bipush 110, 2) := by decide +kernel
theorem dX11_word_121 : decode cX11_word 121 = .ok (.iconst 0, 1) := by decide +kernel
theorem dX11_word_122 : decode cX11_word 122 = .ok (.iconst 0, 1) := by decide +kernel
theorem dX11_word_123 : decode cX11_word 123 = .ok (.iconst 0, 1) := by decide +kernel
theorem dX11_word_124 : decode cX11_word 124 = .ok (.invokevirtual 239, 3) := by decide +kernel
theorem dX11_word_127 : decode cX11_word 127 = .ok (.ifCond .eq 5, 3) := by decide +kernel
theorem dX11_word_130 : decode cX11_word 130 = .ok (.iconst 5, 1) := by decide +kernel
theorem dX11_word_131 : decode cX11_word 131 = .ok (.ireturn, 1) := by decide +kernel
theorem dX11_word_132 : decode cX11_word 132 = .ok (.aload_n 0, 1) := by decide +kernel
theorem dX11_word_133 : decode cX11_word 133 = .ok (.iconst 4, 1) := by decide +kernel
theorem dX11_word_134 : decode cX11_word 134 = .ok (.bipush 109, 2) := by decide +kernel
theorem dX11_word_136 : decode cX11_word 136 = .ok (.bipush 111, 2) := by decide +kernel
theorem dX11_word_138 : decode cX11_word 138 = .ok (.bipush 118, 2) := by decide +kernel
theorem dX11_word_140 : decode cX11_word 140 = .ok (.bipush 101, 2) := by decide +kernel
theorem dX11_word_142 : decode cX11_word 142 = .ok (.iconst 0, 1) := by decide +kernel
theorem dX11_word_143 : decode cX11_word 143 = .ok (.iconst 0, 1) := by decide +kernel
theorem dX11_word_144 : decode cX11_word 144 = .ok (.iconst 0, 1) := by decide +kernel
theorem dX11_word_145 : decode cX11_word 145 = .ok (.invokevirtual 239, 3) := by decide +kernel
theorem dX11_word_148 : decode cX11_word 148 = .ok (.ifCond .eq 6, 3) := by decide +kernel
theorem dX11_word_151 : decode cX11_word 151 = .ok (.bipush 6, 2) := by decide +kernel
theorem dX11_word_153 : decode cX11_word 153 = .ok (.ireturn, 1) := by decide +kernel
theorem dX11_word_154 : decode cX11_word 154 = .ok (.aload_n 0, 1) := by decide +kernel
theorem dX11_word_155 : decode cX11_word 155 = .ok (.iconst 4, 1) := by decide +kernel
theorem dX11_word_156 : decode cX11_word 156 = .ok (.bipush 115, 2) := by decide +kernel
theorem dX11_word_158 : decode cX11_word 158 = .ok (.bipush 116, 2) := by decide +kernel
theorem dX11_word_160 : decode cX11_word 160 = .ok (.bipush 101, 2) := by decide +kernel
theorem dX11_word_162 : decode cX11_word 162 = .ok (.bipush 112, 2) := by decide +kernel
theorem dX11_word_164 : decode cX11_word 164 = .ok (.iconst 0, 1) := by decide +kernel
theorem dX11_word_165 : decode cX11_word 165 = .ok (.iconst 0, 1) := by decide +kernel
theorem dX11_word_166 : decode cX11_word 166 = .ok (.iconst 0, 1) := by decide +kernel
theorem dX11_word_167 : decode cX11_word 167 = .ok (.invokevirtual 239, 3) := by decide +kernel
theorem dX11_word_170 : decode cX11_word 170 = .ok (.ifCond .eq 6, 3) := by decide +kernel
theorem dX11_word_173 : decode cX11_word 173 = .ok (.bipush 7, 2) := by decide +kernel
theorem dX11_word_175 : decode cX11_word 175 = .ok (.ireturn, 1) := by decide +kernel
theorem dX11_word_176 : decode cX11_word 176 = .ok (.aload_n 0, 1) := by decide +kernel
theorem dX11_word_177 : decode cX11_word 177 = .ok (.iconst 4, 1) := by decide +kernel
theorem dX11_word_178 : decode cX11_word 178 = .ok (.bipush 102, 2) := by decide +kernel
theorem dX11_word_180 : decode cX11_word 180 = .ok (.bipush 97, 2) := by decide +kernel
theorem dX11_word_182 : decode cX11_word 182 = .ok (.bipush 105, 2) := by decide +kernel
theorem dX11_word_184 : decode cX11_word 184 = .ok (.bipush 108, 2) := by decide +kernel
theorem dX11_word_186 : decode cX11_word 186 = .ok (.iconst 0, 1) := by decide +kernel
theorem dX11_word_187 : decode cX11_word 187 = .ok (.iconst 0, 1) := by decide +kernel
theorem dX11_word_188 : decode cX11_word 188 = .ok (.iconst 0, 1) := by decide +kernel
theorem dX11_word_189 : decode cX11_word 189 = .ok (.invokevirtual 239, 3) := by decide +kernel
theorem dX11_word_192 : decode cX11_word 192 = .ok (.ifCond .eq 6, 3) := by decide +kernel
theorem dX11_word_195 : decode cX11_word 195 = .ok (.bipush 8, 2) := by decide +kernel
theorem dX11_word_197 : decode cX11_word 197 = .ok (.ireturn, 1) := by decide +kernel
theorem dX11_word_198 : decode cX11_word 198 = .ok (.aload_n 0, 1) := by decide +kernel
theorem dX11_word_199 : decode cX11_word 199 = .ok (.iconst 4, 1) := by decide +kernel
theorem dX11_word_200 : decode cX11_word 200 = .ok (.bipush 100, 2) := by decide +kernel
theorem dX11_word_202 : decode cX11_word 202 = .ok (.bipush 111, 2) := by decide +kernel
theorem dX11_word_204 : decode cX11_word 204 = .ok (.bipush 119, 2) := by decide +kernel
theorem dX11_word_206 : decode cX11_word 206 = .ok (.bipush 110, 2) := by decide +kernel
theorem dX11_word_208 : decode cX11_word 208 = .ok (.iconst 0, 1) := by decide +kernel
theorem dX11_word_209 : decode cX11_word 209 = .ok (.iconst 0, 1) := by decide +kernel
theorem dX11_word_210 : decode cX11_word 210 = .ok (.iconst 0, 1) := by decide +kernel
theorem dX11_word_211 : decode cX11_word 211 = .ok (.invokevirtual 239, 3) := by decide +kernel
theorem dX11_word_214 : decode cX11_word 214 = .ok (.ifCond .eq 6, 3) := by decide +kernel
theorem dX11_word_217 : decode cX11_word 217 = .ok (.bipush 9, 2) := by decide +kernel
theorem dX11_word_219 : decode cX11_word 219 = .ok (.ireturn, 1) := by decide +kernel
theorem dX11_word_220 : decode cX11_word 220 = .ok (.aload_n 0, 1) := by decide +kernel
theorem dX11_word_221 : decode cX11_word 221 = .ok (.iconst 2, 1) := by decide +kernel
theorem dX11_word_222 : decode cX11_word 222 = .ok (.bipush 117, 2) := by decide +kernel
theorem dX11_word_224 : decode cX11_word 224 = .ok (.bipush 112, 2) := by decide +kernel
theorem dX11_word_226 : decode cX11_word 226 = .ok (.iconst 0, 1) := by decide +kernel
theorem dX11_word_227 : decode cX11_word 227 = .ok (.iconst 0, 1) := by decide +kernel
theorem dX11_word_228 : decode cX11_word 228 = .ok (.iconst 0, 1) := by decide +kernel
theorem dX11_word_229 : decode cX11_word 229 = .ok (.iconst 0, 1) := by decide +kernel
theorem dX11_word_230 : decode cX11_word 230 = .ok (.iconst 0, 1) := by decide +kernel
theorem dX11_word_231 : decode cX11_word 231 = .ok (.invokevirtual 239, 3) := by decide +kernel
theorem dX11_word_234 : decode cX11_word 234 = .ok (.ifCond .eq 6, 3) := by decide +kernel
theorem dX11_word_237 : decode cX11_word 237 = .ok (.bipush 10, 2) := by decide +kernel
theorem dX11_word_239 : decode cX11_word 239 = .ok (.ireturn, 1) := by decide +kernel
theorem dX11_word_240 : decode cX11_word 240 = .ok (.aload_n 0, 1) := by decide +kernel
theorem dX11_word_241 : decode cX11_word 241 = .ok (.bipush 7, 2) := by decide +kernel
theorem dX11_word_243 : decode cX11_word 243 = .ok (.bipush 114, 2) := by decide +kernel
theorem dX11_word_245 : decode cX11_word 245 = .ok (.bipush 101, 2) := by decide +kernel
theorem dX11_word_247 : decode cX11_word 247 = .ok (.bipush 99, 2) := by decide +kernel
theorem dX11_word_249 : decode cX11_word 249 = .ok (.bipush 111, 2) := by decide +kernel
theorem dX11_word_251 : decode cX11_word 251 = .ok (.bipush 118, 2) := by decide +kernel
theorem dX11_word_253 : decode cX11_word 253 = .ok (.bipush 101, 2) := by decide +kernel
theorem dX11_word_255 : decode cX11_word 255 = .ok (.bipush 114, 2) := by decide +kernel
theorem dX11_word_257 : decode cX11_word 257 = .ok (.invokevirtual 239, 3) := by decide +kernel
theorem dX11_word_260 : decode cX11_word 260 = .ok (.ifCond .eq 6, 3) := by decide +kernel
theorem dX11_word_263 : decode cX11_word 263 = .ok (.bipush 11, 2) := by decide +kernel
theorem dX11_word_265 : decode cX11_word 265 = .ok (.ireturn, 1) := by decide +kernel
theorem dX11_word_266 : decode cX11_word 266 = .ok (.aload_n 0, 1) := by decide +kernel
theorem dX11_word_267 : decode cX11_word 267 = .ok (.iconst 4, 1) := by decide +kernel
theorem dX11_word_268 : decode cX11_word 268 = .ok (.bipush 103, 2) := by decide +kernel
theorem dX11_word_270 : decode cX11_word 270 = .ok (.bipush 105, 2) := by decide +kernel
theorem dX11_word_272 : decode cX11_word 272 = .ok (.bipush 118, 2) := by decide +kernel
theorem dX11_word_274 : decode cX11_word 274 = .ok (.bipush 101, 2) := by decide +kernel
theorem dX11_word_276 : decode cX11_word 276 = .ok (.iconst 0, 1) := by decide +kernel
theorem dX11_word_277 : decode cX11_word 277 = .ok (.iconst 0, 1) := by decide +kernel
theorem dX11_word_278 : decode cX11_word 278 = .ok (.iconst 0, 1) := by decide +kernel
theorem dX11_word_279 : decode cX11_word 279 = .ok (.invokevirtual 239, 3) := by decide +kernel
theorem dX11_word_282 : decode cX11_word 282 = .ok (.ifCond .eq 6, 3) := by decide +kernel
theorem dX11_word_285 : decode cX11_word 285 = .ok (.bipush 12, 2) := by decide +kernel
theorem dX11_word_287 : decode cX11_word 287 = .ok (.ireturn, 1) := by decide +kernel
theorem dX11_word_288 : decode cX11_word 288 = .ok (.aload_n 0, 1) := by decide +kernel
theorem dX11_word_289 : decode cX11_word 289 = .ok (.iconst 3, 1) := by decide +kernel
theorem dX11_word_290 : decode cX11_word 290 = .ok (.bipush 97, 2) := by decide +kernel
theorem dX11_word_292 : decode cX11_word 292 = .ok (.bipush 103, 2) := by decide +kernel
theorem dX11_word_294 : decode cX11_word 294 = .ok (.bipush 101, 2) := by decide +kernel
theorem dX11_word_296 : decode cX11_word 296 = .ok (.iconst 0, 1) := by decide +kernel
theorem dX11_word_297 : decode cX11_word 297 = .ok (.iconst 0, 1) := by decide +kernel
theorem dX11_word_298 : decode cX11_word 298 = .ok (.iconst 0, 1) := by decide +kernel
theorem dX11_word_299 : decode cX11_word 299 = .ok (.iconst 0, 1) := by decide +kernel
theorem dX11_word_300 : decode cX11_word 300 = .ok (.invokevirtual 239, 3) := by decide +kernel
theorem dX11_word_303 : decode cX11_word 303 = .ok (.ifCond .eq 6, 3) := by decide +kernel
theorem dX11_word_306 : decode cX11_word 306 = .ok (.bipush 13, 2) := by decide +kernel
theorem dX11_word_308 : decode cX11_word 308 = .ok (.ireturn, 1) := by decide +kernel
theorem dX11_word_309 : decode cX11_word 309 = .ok (.aload_n 0, 1) := by decide +kernel
theorem dX11_word_310 : decode cX11_word 310 = .ok (.iconst 5, 1) := by decide +kernel
theorem dX11_word_311 : decode cX11_word 311 = .ok (.bipush 99, 2) := by decide +kernel
theorem dX11_word_313 : decode cX11_word 313 = .ok (.bipush 104, 2) := by decide +kernel
theorem dX11_word_315 : decode cX11_word 315 = .ok (.bipush 117, 2) := by decide +kernel
theorem dX11_word_317 : decode cX11_word 317 = .ok (.bipush 110, 2) := by decide +kernel
theorem dX11_word_319 : decode cX11_word 319 = .ok (.bipush 107, 2) := by decide +kernel
theorem dX11_word_321 : decode cX11_word 321 = .ok (.iconst 0, 1) := by decide +kernel
theorem dX11_word_322 : decode cX11_word 322 = .ok (.iconst 0, 1) := by decide +kernel
theorem dX11_word_323 : decode cX11_word 323 = .ok (.invokevirtual 239, 3) := by decide +kernel
theorem dX11_word_326 : decode cX11_word 326 = .ok (.ifCond .eq 8, 3) := by decide +kernel
theorem dX11_word_329 : decode cX11_word 329 = .ok (.bipush 14, 2) := by decide +kernel
theorem dX11_word_331 : decode cX11_word 331 = .ok (.goto 4, 3) := by decide +kernel
theorem dX11_word_334 : decode cX11_word 334 = .ok (.iconst (-1), 1) := by decide +kernel
theorem dX11_word_335 : decode cX11_word 335 = .ok (.ireturn, 1) := by decide +kernel
theorem dX11_numbersOf_0 : decode cX11_numbersOf 0 = .ok (.iload_n 0, 1) := by decide +kernel
theorem dX11_numbersOf_1 : decode cX11_numbersOf 1 = .ok (.tableswitch 73 1 13 #[69, 67, 69, 73, 73, 69, 69, 69, 73, 73, 73, 73, 71], 67) := by decide +kernel
theorem dX11_numbersOf_68 : decode cX11_numbersOf 68 = .ok (.iconst 3, 1) := by decide +kernel
theorem dX11_numbersOf_69 : decode cX11_numbersOf 69 = .ok (.ireturn, 1) := by decide +kernel
theorem dX11_numbersOf_70 : decode cX11_numbersOf 70 = .ok (.iconst 2, 1) := by decide +kernel
theorem dX11_numbersOf_71 : decode cX11_numbersOf 71 = .ok (.ireturn, 1) := by decide +kernel
theorem dX11_numbersOf_72 : decode cX11_numbersOf 72 = .ok (.iconst 0, 1) := by decide +kernel
theorem dX11_numbersOf_73 : decode cX11_numbersOf 73 = .ok (.ireturn, 1) := by decide +kernel
theorem dX11_numbersOf_74 : decode cX11_numbersOf 74 = .ok (.iconst 1, 1) := by decide +kernel
theorem dX11_numbersOf_75 : decode cX11_numbersOf 75 = .ok (.ireturn, 1) := by decide +kernel
theorem dX11_number_0 : decode cX11_number 0 = .ok (.aload_n 0, 1) := by decide +kernel
theorem dX11_number_1 : decode cX11_number 1 = .ok (.getfield 223, 3) := by decide +kernel
theorem dX11_number_4 : decode cX11_number 4 = .ok (.ifCond .eq 5, 3) := by decide +kernel
theorem dX11_number_7 : decode cX11_number 7 = .ok (.iconst 0, 1) := by decide +kernel
theorem dX11_number_8 : decode cX11_number 8 = .ok (.ireturn, 1) := by decide +kernel
theorem dX11_number_9 : decode cX11_number 9 = .ok (.aload_n 0, 1) := by decide +kernel
theorem dX11_number_10 : decode cX11_number 10 = .ok (.invokevirtual 243, 3) := by decide +kernel
theorem dX11_number_13 : decode cX11_number 13 = .ok (.aload_n 0, 1) := by decide +kernel
theorem dX11_number_14 : decode cX11_number 14 = .ok (.getfield 229, 3) := by decide +kernel
theorem dX11_number_17 : decode cX11_number 17 = .ok (.istore_n 1, 1) := by decide +kernel
theorem dX11_number_18 : decode cX11_number 18 = .ok (.iconst 0, 1) := by decide +kernel
theorem dX11_number_19 : decode cX11_number 19 = .ok (.istore_n 2, 1) := by decide +kernel
theorem dX11_number_20 : decode cX11_number 20 = .ok (.aload_n 0, 1) := by decide +kernel
theorem dX11_number_21 : decode cX11_number 21 = .ok (.getfield 229, 3) := by decide +kernel
theorem dX11_number_24 : decode cX11_number 24 = .ok (.aload_n 0, 1) := by decide +kernel
theorem dX11_number_25 : decode cX11_number 25 = .ok (.getfield 217, 3) := by decide +kernel
theorem dX11_number_28 : decode cX11_number 28 = .ok (.if_icmp .ge 66, 3) := by decide +kernel
theorem dX11_number_31 : decode cX11_number 31 = .ok (.aload_n 0, 1) := by decide +kernel
theorem dX11_number_32 : decode cX11_number 32 = .ok (.getfield 29, 3) := by decide +kernel
theorem dX11_number_35 : decode cX11_number 35 = .ok (.aload_n 0, 1) := by decide +kernel
theorem dX11_number_36 : decode cX11_number 36 = .ok (.getfield 229, 3) := by decide +kernel
theorem dX11_number_39 : decode cX11_number 39 = .ok (.baload, 1) := by decide +kernel
theorem dX11_number_40 : decode cX11_number 40 = .ok (.i2l, 1) := by decide +kernel
theorem dX11_number_41 : decode cX11_number 41 = .ok (.ldc2_w 246, 3) := by decide +kernel
theorem dX11_number_44 : decode cX11_number 44 = .ok (.ldc2_w 248, 3) := by decide +kernel
theorem dX11_number_47 : decode cX11_number 47 = .ok (.invokestatic 45, 3) := by decide +kernel
theorem dX11_number_50 : decode cX11_number 50 = .ok (.ifCond .eq 44, 3) := by decide +kernel
theorem dX11_number_53 : decode cX11_number 53 = .ok (.iload_n 2, 1) := by decide +kernel
theorem dX11_number_54 : decode cX11_number 54 = .ok (.ldc 250, 2) := by decide +kernel
theorem dX11_number_56 : decode cX11_number 56 = .ok (.if_icmp .le 7, 3) := by decide +kernel
theorem dX11_number_59 : decode cX11_number 59 = .ok (.iload_n 2, 1) := by decide +kernel
theorem dX11_number_60 : decode cX11_number 60 = .ok (.goto 20, 3) := by decide +kernel
theorem dX11_number_63 : decode cX11_number 63 = .ok (.bipush 10, 2) := by decide +kernel
theorem dX11_number_65 : decode cX11_number 65 = .ok (.iload_n 2, 1) := by decide +kernel
theorem dX11_number_66 : decode cX11_number 66 = .ok (.imul, 1) := by decide +kernel
theorem dX11_number_67 : decode cX11_number 67 = .ok (.aload_n 0, 1) := by decide +kernel
theorem dX11_number_68 : decode cX11_number 68 = .ok (.getfield 29, 3) := by decide +kernel
theorem dX11_number_71 : decode cX11_number 71 = .ok (.aload_n 0, 1) := by decide +kernel
theorem dX11_number_72 : decode cX11_number 72 = .ok (.getfield 229, 3) := by decide +kernel
theorem dX11_number_75 : decode cX11_number 75 = .ok (.baload, 1) := by decide +kernel
theorem dX11_number_76 : decode cX11_number 76 = .ok (.iadd, 1) := by decide +kernel
theorem dX11_number_77 : decode cX11_number 77 = .ok (.bipush 48, 2) := by decide +kernel
theorem dX11_number_79 : decode cX11_number 79 = .ok (.isub, 1) := by decide +kernel
theorem dX11_number_80 : decode cX11_number 80 = .ok (.istore_n 2, 1) := by decide +kernel
theorem dX11_number_81 : decode cX11_number 81 = .ok (.aload_n 0, 1) := by decide +kernel
theorem dX11_number_82 : decode cX11_number 82 = .ok (.dup, 1) := by decide +kernel
theorem dX11_number_83 : decode cX11_number 83 = .ok (.getfield 229, 3) := by decide +kernel
theorem dX11_number_86 : decode cX11_number 86 = .ok (.iconst 1, 1) := by decide +kernel
theorem dX11_number_87 : decode cX11_number 87 = .ok (.iadd, 1) := by decide +kernel
theorem dX11_number_88 : decode cX11_number 88 = .ok (.putfield 229, 3) := by decide +kernel
theorem dX11_number_91 : decode cX11_number 91 = .ok (.goto (-71), 3) := by decide +kernel
theorem dX11_number_94 : decode cX11_number 94 = .ok (.aload_n 0, 1) := by decide +kernel
theorem dX11_number_95 : decode cX11_number 95 = .ok (.getfield 229, 3) := by decide +kernel
theorem dX11_number_98 : decode cX11_number 98 = .ok (.iload_n 1, 1) := by decide +kernel
theorem dX11_number_99 : decode cX11_number 99 = .ok (.if_icmp .ne 12, 3) := by decide +kernel
theorem dX11_number_102 : decode cX11_number 102 = .ok (.aload_n 0, 1) := by decide +kernel
theorem dX11_number_103 : decode cX11_number 103 = .ok (.iconst 1, 1) := by decide +kernel
theorem dX11_number_104 : decode cX11_number 104 = .ok (.iload_n 1, 1) := by decide +kernel
theorem dX11_number_105 : decode cX11_number 105 = .ok (.invokevirtual 251, 3) := by decide +kernel
theorem dX11_number_108 : decode cX11_number 108 = .ok (.goto 15, 3) := by decide +kernel
theorem dX11_number_111 : decode cX11_number 111 = .ok (.iload_n 2, 1) := by decide +kernel
theorem dX11_number_112 : decode cX11_number 112 = .ok (.ldc 250, 2) := by decide +kernel
theorem dX11_number_114 : decode cX11_number 114 = .ok (.if_icmp .le 9, 3) := by decide +kernel
theorem dX11_number_117 : decode cX11_number 117 = .ok (.aload_n 0, 1) := by decide +kernel
theorem dX11_number_118 : decode cX11_number 118 = .ok (.iconst 2, 1) := by decide +kernel
theorem dX11_number_119 : decode cX11_number 119 = .ok (.iload_n 1, 1) := by decide +kernel
theorem dX11_number_120 : decode cX11_number 120 = .ok (.invokevirtual 251, 3) := by decide +kernel
theorem dX11_number_123 : decode cX11_number 123 = .ok (.iload_n 2, 1) := by decide +kernel
theorem dX11_number_124 : decode cX11_number 124 = .ok (.ireturn, 1) := by decide +kernel
theorem dX11_reads_0 : decode cX11_reads 0 = .ok (.aload_n 0, 1) := by decide +kernel
theorem dX11_reads_1 : decode cX11_reads 1 = .ok (.invokevirtual 254, 3) := by decide +kernel
theorem dX11_reads_4 : decode cX11_reads 4 = .ok (.istore_n 1, 1) := by decide +kernel
theorem dX11_reads_5 : decode cX11_reads 5 = .ok (.iload_n 1, 1) := by decide +kernel
theorem dX11_reads_6 : decode cX11_reads 6 = .ok (.iconst (-1), 1) := by decide +kernel
theorem dX11_reads_7 : decode cX11_reads 7 = .ok (.if_icmp .ne 15, 3) := by decide +kernel
theorem dX11_reads_10 : decode cX11_reads 10 = .ok (.aload_n 0, 1) := by decide +kernel
theorem dX11_reads_11 : decode cX11_reads 11 = .ok (.iconst 1, 1) := by decide +kernel
theorem dX11_reads_12 : decode cX11_reads 12 = .ok (.aload_n 0, 1) := by decide +kernel
theorem dX11_reads_13 : decode cX11_reads 13 = .ok (.getfield 229, 3) := by decide +kernel
theorem dX11_reads_16 : decode cX11_reads 16 = .ok (.invokevirtual 251, 3) := by decide +kernel
theorem dX11_reads_19 : decode cX11_reads 19 = .ok (.goto 21, 3) := by decide +kernel
theorem dX11_reads_22 : decode cX11_reads 22 = .ok (.aload_n 0, 1) := by decide +kernel
theorem dX11_reads_23 : decode cX11_reads 23 = .ok (.getfield 257, 3) := by decide +kernel
theorem dX11_reads_26 : decode cX11_reads 26 = .ok (.bipush 40, 2) := by decide +kernel
theorem dX11_reads_28 : decode cX11_reads 28 = .ok (.if_icmp .ne 12, 3) := by decide +kernel
theorem dX11_reads_31 : decode cX11_reads 31 = .ok (.aload_n 0, 1) := by decide +kernel
theorem dX11_reads_32 : decode cX11_reads 32 = .ok (.iconst 3, 1) := by decide +kernel
theorem dX11_reads_33 : decode cX11_reads 33 = .ok (.aload_n 0, 1) := by decide +kernel
theorem dX11_reads_34 : decode cX11_reads 34 = .ok (.getfield 229, 3) := by decide +kernel
theorem dX11_reads_37 : decode cX11_reads 37 = .ok (.invokevirtual 251, 3) := by decide +kernel
theorem dX11_reads_40 : decode cX11_reads 40 = .ok (.aload_n 0, 1) := by decide +kernel
theorem dX11_reads_41 : decode cX11_reads 41 = .ok (.getfield 223, 3) := by decide +kernel
theorem dX11_reads_44 : decode cX11_reads 44 = .ok (.ifCond .eq 4, 3) := by decide +kernel
theorem dX11_reads_47 : decode cX11_reads 47 = .ok (.return_, 1) := by decide +kernel
theorem dX11_reads_48 : decode cX11_reads 48 = .ok (.aload_n 0, 1) := by decide +kernel
theorem dX11_reads_49 : decode cX11_reads 49 = .ok (.aload_n 0, 1) := by decide +kernel
theorem dX11_reads_50 : decode cX11_reads 50 = .ok (.invokevirtual 236, 3) := by decide +kernel
theorem dX11_reads_53 : decode cX11_reads 53 = .ok (.putfield 229, 3) := by decide +kernel
theorem dX11_reads_56 : decode cX11_reads 56 = .ok (.aload_n 0, 1) := by decide +kernel
theorem dX11_reads_57 : decode cX11_reads 57 = .ok (.getfield 40, 3) := by decide +kernel
theorem dX11_reads_60 : decode cX11_reads 60 = .ok (.iconst 4, 1) := by decide +kernel
theorem dX11_reads_61 : decode cX11_reads 61 = .ok (.aload_n 0, 1) := by decide +kernel
theorem dX11_reads_62 : decode cX11_reads 62 = .ok (.getfield 257, 3) := by decide +kernel
theorem dX11_reads_65 : decode cX11_reads 65 = .ok (.imul, 1) := by decide +kernel
theorem dX11_reads_66 : decode cX11_reads 66 = .ok (.iload_n 1, 1) := by decide +kernel
theorem dX11_reads_67 : decode cX11_reads 67 = .ok (.iastore, 1) := by decide +kernel
theorem dX11_reads_68 : decode cX11_reads 68 = .ok (.iconst 0, 1) := by decide +kernel
theorem dX11_reads_69 : decode cX11_reads 69 = .ok (.istore_n 2, 1) := by decide +kernel
theorem dX11_reads_70 : decode cX11_reads 70 = .ok (.iload_n 2, 1) := by decide +kernel
theorem dX11_reads_71 : decode cX11_reads 71 = .ok (.iload_n 1, 1) := by decide +kernel
theorem dX11_reads_72 : decode cX11_reads 72 = .ok (.invokestatic 260, 3) := by decide +kernel
theorem dX11_reads_75 : decode cX11_reads 75 = .ok (.if_icmp .ge 28, 3) := by decide +kernel
theorem dX11_reads_78 : decode cX11_reads 78 = .ok (.aload_n 0, 1) := by decide +kernel
theorem dX11_reads_79 : decode cX11_reads 79 = .ok (.getfield 40, 3) := by decide +kernel
theorem dX11_reads_82 : decode cX11_reads 82 = .ok (.iconst 4, 1) := by decide +kernel
theorem dX11_reads_83 : decode cX11_reads 83 = .ok (.aload_n 0, 1) := by decide +kernel
theorem dX11_reads_84 : decode cX11_reads 84 = .ok (.getfield 257, 3) := by decide +kernel
theorem dX11_reads_87 : decode cX11_reads 87 = .ok (.imul, 1) := by decide +kernel
theorem dX11_reads_88 : decode cX11_reads 88 = .ok (.iconst 1, 1) := by decide +kernel
theorem dX11_reads_89 : decode cX11_reads 89 = .ok (.iadd, 1) := by decide +kernel
theorem dX11_reads_90 : decode cX11_reads 90 = .ok (.iload_n 2, 1) := by decide +kernel
theorem dX11_reads_91 : decode cX11_reads 91 = .ok (.iadd, 1) := by decide +kernel
theorem dX11_reads_92 : decode cX11_reads 92 = .ok (.aload_n 0, 1) := by decide +kernel
theorem dX11_reads_93 : decode cX11_reads 93 = .ok (.invokevirtual 263, 3) := by decide +kernel
theorem dX11_reads_96 : decode cX11_reads 96 = .ok (.iastore, 1) := by decide +kernel
theorem dX11_reads_97 : decode cX11_reads 97 = .ok (.iinc 2 1, 3) := by decide +kernel
theorem dX11_reads_100 : decode cX11_reads 100 = .ok (.goto (-30), 3) := by decide +kernel
theorem dX11_reads_103 : decode cX11_reads 103 = .ok (.aload_n 0, 1) := by decide +kernel
theorem dX11_reads_104 : decode cX11_reads 104 = .ok (.dup, 1) := by decide +kernel
theorem dX11_reads_105 : decode cX11_reads 105 = .ok (.getfield 257, 3) := by decide +kernel
theorem dX11_reads_108 : decode cX11_reads 108 = .ok (.iconst 1, 1) := by decide +kernel
theorem dX11_reads_109 : decode cX11_reads 109 = .ok (.iadd, 1) := by decide +kernel
theorem dX11_reads_110 : decode cX11_reads 110 = .ok (.putfield 257, 3) := by decide +kernel
theorem dX11_reads_113 : decode cX11_reads 113 = .ok (.aload_n 0, 1) := by decide +kernel
theorem dX11_reads_114 : decode cX11_reads 114 = .ok (.invokevirtual 243, 3) := by decide +kernel
theorem dX11_reads_117 : decode cX11_reads 117 = .ok (.aload_n 0, 1) := by decide +kernel
theorem dX11_reads_118 : decode cX11_reads 118 = .ok (.getfield 229, 3) := by decide +kernel
theorem dX11_reads_121 : decode cX11_reads 121 = .ok (.aload_n 0, 1) := by decide +kernel
theorem dX11_reads_122 : decode cX11_reads 122 = .ok (.getfield 217, 3) := by decide +kernel
theorem dX11_reads_125 : decode cX11_reads 125 = .ok (.if_icmp .ge 30, 3) := by decide +kernel
theorem dX11_reads_128 : decode cX11_reads 128 = .ok (.aload_n 0, 1) := by decide +kernel
theorem dX11_reads_129 : decode cX11_reads 129 = .ok (.getfield 29, 3) := by decide +kernel
theorem dX11_reads_132 : decode cX11_reads 132 = .ok (.aload_n 0, 1) := by decide +kernel
theorem dX11_reads_133 : decode cX11_reads 133 = .ok (.getfield 229, 3) := by decide +kernel
theorem dX11_reads_136 : decode cX11_reads 136 = .ok (.baload, 1) := by decide +kernel
theorem dX11_reads_137 : decode cX11_reads 137 = .ok (.bipush 59, 2) := by decide +kernel
theorem dX11_reads_139 : decode cX11_reads 139 = .ok (.if_icmp .ne 16, 3) := by decide +kernel
theorem dX11_reads_142 : decode cX11_reads 142 = .ok (.aload_n 0, 1) := by decide +kernel
theorem dX11_reads_143 : decode cX11_reads 143 = .ok (.dup, 1) := by decide +kernel
theorem dX11_reads_144 : decode cX11_reads 144 = .ok (.getfield 229, 3) := by decide +kernel
theorem dX11_reads_147 : decode cX11_reads 147 = .ok (.iconst 1, 1) := by decide +kernel
theorem dX11_reads_148 : decode cX11_reads 148 = .ok (.iadd, 1) := by decide +kernel
theorem dX11_reads_149 : decode cX11_reads 149 = .ok (.putfield 229, 3) := by decide +kernel
theorem dX11_reads_152 : decode cX11_reads 152 = .ok (.goto 12, 3) := by decide +kernel
theorem dX11_reads_155 : decode cX11_reads 155 = .ok (.aload_n 0, 1) := by decide +kernel
theorem dX11_reads_156 : decode cX11_reads 156 = .ok (.iconst 1, 1) := by decide +kernel
theorem dX11_reads_157 : decode cX11_reads 157 = .ok (.aload_n 0, 1) := by decide +kernel
theorem dX11_reads_158 : decode cX11_reads 158 = .ok (.getfield 229, 3) := by decide +kernel
theorem dX11_reads_161 : decode cX11_reads 161 = .ok (.invokevirtual 251, 3) := by decide +kernel
theorem dX11_reads_164 : decode cX11_reads 164 = .ok (.return_, 1) := by decide +kernel
theorem dX11_isDone_0 : decode cX11_isDone 0 = .ok (.aload_n 0, 1) := by decide +kernel
theorem dX11_isDone_1 : decode cX11_isDone 1 = .ok (.getfield 40, 3) := by decide +kernel
theorem dX11_isDone_4 : decode cX11_isDone 4 = .ok (.iconst 4, 1) := by decide +kernel
theorem dX11_isDone_5 : decode cX11_isDone 5 = .ok (.iload_n 1, 1) := by decide +kernel
theorem dX11_isDone_6 : decode cX11_isDone 6 = .ok (.imul, 1) := by decide +kernel
theorem dX11_isDone_7 : decode cX11_isDone 7 = .ok (.iconst 1, 1) := by decide +kernel
theorem dX11_isDone_8 : decode cX11_isDone 8 = .ok (.iadd, 1) := by decide +kernel
theorem dX11_isDone_9 : decode cX11_isDone 9 = .ok (.iaload, 1) := by decide +kernel
theorem dX11_isDone_10 : decode cX11_isDone 10 = .ok (.istore_n 2, 1) := by decide +kernel
theorem dX11_isDone_11 : decode cX11_isDone 11 = .ok (.aload_n 0, 1) := by decide +kernel
theorem dX11_isDone_12 : decode cX11_isDone 12 = .ok (.getfield 40, 3) := by decide +kernel
theorem dX11_isDone_15 : decode cX11_isDone 15 = .ok (.iconst 4, 1) := by decide +kernel
theorem dX11_isDone_16 : decode cX11_isDone 16 = .ok (.iload_n 1, 1) := by decide +kernel
theorem dX11_isDone_17 : decode cX11_isDone 17 = .ok (.imul, 1) := by decide +kernel
theorem dX11_isDone_18 : decode cX11_isDone 18 = .ok (.iconst 2, 1) := by decide +kernel
theorem dX11_isDone_19 : decode cX11_isDone 19 = .ok (.iadd, 1) := by decide +kernel
theorem dX11_isDone_20 : decode cX11_isDone 20 = .ok (.iaload, 1) := by decide +kernel
theorem dX11_isDone_21 : decode cX11_isDone 21 = .ok (.istore_n 3, 1) := by decide +kernel
theorem dX11_isDone_22 : decode cX11_isDone 22 = .ok (.aload_n 0, 1) := by decide +kernel
theorem dX11_isDone_23 : decode cX11_isDone 23 = .ok (.getfield 40, 3) := by decide +kernel
theorem dX11_isDone_26 : decode cX11_isDone 26 = .ok (.iconst 4, 1) := by decide +kernel
theorem dX11_isDone_27 : decode cX11_isDone 27 = .ok (.iload_n 1, 1) := by decide +kernel
theorem dX11_isDone_28 : decode cX11_isDone 28 = .ok (.imul, 1) := by decide +kernel
theorem dX11_isDone_29 : decode cX11_isDone 29 = .ok (.iaload, 1) := by decide +kernel
theorem dX11_isDone_30 : decode cX11_isDone 30 = .ok (.tableswitch 267 0 13 #[70, 85, 100, 125, 141, 156, 171, 187, 203, 210, 225, 231, 246, 252], 70) := by decide +kernel
theorem dX11_isDone_100 : decode cX11_isDone 100 = .ok (.aload_n 0, 1) := by decide +kernel
theorem dX11_isDone_101 : decode cX11_isDone 101 = .ok (.iload_n 2, 1) := by decide +kernel
theorem dX11_isDone_102 : decode cX11_isDone 102 = .ok (.invokevirtual 158, 3) := by decide +kernel
theorem dX11_isDone_105 : decode cX11_isDone 105 = .ok (.iconst (-1), 1) := by decide +kernel
theorem dX11_isDone_106 : decode cX11_isDone 106 = .ok (.if_icmp .eq 7, 3) := by decide +kernel
theorem dX11_isDone_109 : decode cX11_isDone 109 = .ok (.iconst 1, 1) := by decide +kernel
theorem dX11_isDone_110 : decode cX11_isDone 110 = .ok (.goto 4, 3) := by decide +kernel
theorem dX11_isDone_113 : decode cX11_isDone 113 = .ok (.iconst 0, 1) := by decide +kernel
theorem dX11_isDone_114 : decode cX11_isDone 114 = .ok (.ireturn, 1) := by decide +kernel
theorem dX11_isDone_115 : decode cX11_isDone 115 = .ok (.aload_n 0, 1) := by decide +kernel
theorem dX11_isDone_116 : decode cX11_isDone 116 = .ok (.iload_n 2, 1) := by decide +kernel
theorem dX11_isDone_117 : decode cX11_isDone 117 = .ok (.iload_n 3, 1) := by decide +kernel
theorem dX11_isDone_118 : decode cX11_isDone 118 = .ok (.invokevirtual 266, 3) := by decide +kernel
theorem dX11_isDone_121 : decode cX11_isDone 121 = .ok (.ifCond .lt 7, 3) := by decide +kernel
theorem dX11_isDone_124 : decode cX11_isDone 124 = .ok (.iconst 1, 1) := by decide +kernel
theorem dX11_isDone_125 : decode cX11_isDone 125 = .ok (.goto 4, 3) := by decide +kernel
theorem dX11_isDone_128 : decode cX11_isDone 128 = .ok (.iconst 0, 1) := by decide +kernel
theorem dX11_isDone_129 : decode cX11_isDone 129 = .ok (.ireturn, 1) := by decide +kernel
theorem dX11_isDone_130 : decode cX11_isDone 130 = .ok (.aload_n 0, 1) := by decide +kernel
theorem dX11_isDone_131 : decode cX11_isDone 131 = .ok (.iload_n 2, 1) := by decide +kernel
theorem dX11_isDone_132 : decode cX11_isDone 132 = .ok (.iload_n 3, 1) := by decide +kernel
theorem dX11_isDone_133 : decode cX11_isDone 133 = .ok (.aload_n 0, 1) := by decide +kernel
theorem dX11_isDone_134 : decode cX11_isDone 134 = .ok (.getfield 40, 3) := by decide +kernel
theorem dX11_isDone_137 : decode cX11_isDone 137 = .ok (.iconst 4, 1) := by decide +kernel
theorem dX11_isDone_138 : decode cX11_isDone 138 = .ok (.iload_n 1, 1) := by decide +kernel
theorem dX11_isDone_139 : decode cX11_isDone 139 = .ok (.imul, 1) := by decide +kernel
theorem dX11_isDone_140 : decode cX11_isDone 140 = .ok (.iconst 3, 1) := by decide +kernel
theorem dX11_isDone_141 : decode cX11_isDone 141 = .ok (.iadd, 1) := by decide +kernel
theorem dX11_isDone_142 : decode cX11_isDone 142 = .ok (.iaload, 1) := by decide +kernel
theorem dX11_isDone_143 : decode cX11_isDone 143 = .ok (.invokevirtual 269, 3) := by decide +kernel
theorem dX11_isDone_146 : decode cX11_isDone 146 = .ok (.ifCond .ne 7, 3) := by decide +kernel
theorem dX11_isDone_149 : decode cX11_isDone 149 = .ok (.iconst 1, 1) := by decide +kernel
theorem dX11_isDone_150 : decode cX11_isDone 150 = .ok (.goto 4, 3) := by decide +kernel
theorem dX11_isDone_153 : decode cX11_isDone 153 = .ok (.iconst 0, 1) := by decide +kernel
theorem dX11_isDone_154 : decode cX11_isDone 154 = .ok (.ireturn, 1) := by decide +kernel
theorem dX11_isDone_155 : decode cX11_isDone 155 = .ok (.aload_n 0, 1) := by decide +kernel
theorem dX11_isDone_156 : decode cX11_isDone 156 = .ok (.iload_n 2, 1) := by decide +kernel
theorem dX11_isDone_157 : decode cX11_isDone 157 = .ok (.iload_n 3, 1) := by decide +kernel
theorem dX11_isDone_158 : decode cX11_isDone 158 = .ok (.invokevirtual 272, 3) := by decide +kernel
theorem dX11_isDone_161 : decode cX11_isDone 161 = .ok (.iconst (-1), 1) := by decide +kernel
theorem dX11_isDone_162 : decode cX11_isDone 162 = .ok (.if_icmp .eq 7, 3) := by decide +kernel
theorem dX11_isDone_165 : decode cX11_isDone 165 = .ok (.iconst 1, 1) := by decide +kernel
theorem dX11_isDone_166 : decode cX11_isDone 166 = .ok (.goto 4, 3) := by decide +kernel
theorem dX11_isDone_169 : decode cX11_isDone 169 = .ok (.iconst 0, 1) := by decide +kernel
theorem dX11_isDone_170 : decode cX11_isDone 170 = .ok (.ireturn, 1) := by decide +kernel
theorem dX11_isDone_171 : decode cX11_isDone 171 = .ok (.aload_n 0, 1) := by decide +kernel
theorem dX11_isDone_172 : decode cX11_isDone 172 = .ok (.iload_n 2, 1) := by decide +kernel
theorem dX11_isDone_173 : decode cX11_isDone 173 = .ok (.invokevirtual 275, 3) := by decide +kernel
theorem dX11_isDone_176 : decode cX11_isDone 176 = .ok (.iconst (-1), 1) := by decide +kernel
theorem dX11_isDone_177 : decode cX11_isDone 177 = .ok (.if_icmp .eq 7, 3) := by decide +kernel
theorem dX11_isDone_180 : decode cX11_isDone 180 = .ok (.iconst 1, 1) := by decide +kernel
theorem dX11_isDone_181 : decode cX11_isDone 181 = .ok (.goto 4, 3) := by decide +kernel
theorem dX11_isDone_184 : decode cX11_isDone 184 = .ok (.iconst 0, 1) := by decide +kernel
theorem dX11_isDone_185 : decode cX11_isDone 185 = .ok (.ireturn, 1) := by decide +kernel
theorem dX11_isDone_186 : decode cX11_isDone 186 = .ok (.aload_n 0, 1) := by decide +kernel
theorem dX11_isDone_187 : decode cX11_isDone 187 = .ok (.iload_n 2, 1) := by decide +kernel
theorem dX11_isDone_188 : decode cX11_isDone 188 = .ok (.invokevirtual 278, 3) := by decide +kernel
theorem dX11_isDone_191 : decode cX11_isDone 191 = .ok (.iconst (-1), 1) := by decide +kernel
theorem dX11_isDone_192 : decode cX11_isDone 192 = .ok (.if_icmp .eq 7, 3) := by decide +kernel
theorem dX11_isDone_195 : decode cX11_isDone 195 = .ok (.iconst 1, 1) := by decide +kernel
theorem dX11_isDone_196 : decode cX11_isDone 196 = .ok (.goto 4, 3) := by decide +kernel
theorem dX11_isDone_199 : decode cX11_isDone 199 = .ok (.iconst 0, 1) := by decide +kernel
theorem dX11_isDone_200 : decode cX11_isDone 200 = .ok (.ireturn, 1) := by decide +kernel
theorem dX11_isDone_201 : decode cX11_isDone 201 = .ok (.aload_n 0, 1) := by decide +kernel
theorem dX11_isDone_202 : decode cX11_isDone 202 = .ok (.iload_n 2, 1) := by decide +kernel
theorem dX11_isDone_203 : decode cX11_isDone 203 = .ok (.iload_n 3, 1) := by decide +kernel
theorem dX11_isDone_204 : decode cX11_isDone 204 = .ok (.invokevirtual 281, 3) := by decide +kernel
theorem dX11_isDone_207 : decode cX11_isDone 207 = .ok (.iconst (-1), 1) := by decide +kernel
theorem dX11_isDone_208 : decode cX11_isDone 208 = .ok (.if_icmp .eq 7, 3) := by decide +kernel
theorem dX11_isDone_211 : decode cX11_isDone 211 = .ok (.iconst 1, 1) := by decide +kernel
theorem dX11_isDone_212 : decode cX11_isDone 212 = .ok (.goto 4, 3) := by decide +kernel
theorem dX11_isDone_215 : decode cX11_isDone 215 = .ok (.iconst 0, 1) := by decide +kernel
theorem dX11_isDone_216 : decode cX11_isDone 216 = .ok (.ireturn, 1) := by decide +kernel
theorem dX11_isDone_217 : decode cX11_isDone 217 = .ok (.aload_n 0, 1) := by decide +kernel
theorem dX11_isDone_218 : decode cX11_isDone 218 = .ok (.iload_n 2, 1) := by decide +kernel
theorem dX11_isDone_219 : decode cX11_isDone 219 = .ok (.iload_n 3, 1) := by decide +kernel
theorem dX11_isDone_220 : decode cX11_isDone 220 = .ok (.invokevirtual 284, 3) := by decide +kernel
theorem dX11_isDone_223 : decode cX11_isDone 223 = .ok (.iconst (-1), 1) := by decide +kernel
theorem dX11_isDone_224 : decode cX11_isDone 224 = .ok (.if_icmp .eq 7, 3) := by decide +kernel
theorem dX11_isDone_227 : decode cX11_isDone 227 = .ok (.iconst 1, 1) := by decide +kernel
theorem dX11_isDone_228 : decode cX11_isDone 228 = .ok (.goto 4, 3) := by decide +kernel
theorem dX11_isDone_231 : decode cX11_isDone 231 = .ok (.iconst 0, 1) := by decide +kernel
theorem dX11_isDone_232 : decode cX11_isDone 232 = .ok (.ireturn, 1) := by decide +kernel
theorem dX11_isDone_233 : decode cX11_isDone 233 = .ok (.aload_n 0, 1) := by decide +kernel
theorem dX11_isDone_234 : decode cX11_isDone 234 = .ok (.iload_n 2, 1) := by decide +kernel
theorem dX11_isDone_235 : decode cX11_isDone 235 = .ok (.iload_n 3, 1) := by decide +kernel
theorem dX11_isDone_236 : decode cX11_isDone 236 = .ok (.invokevirtual 287, 3) := by decide +kernel
theorem dX11_isDone_239 : decode cX11_isDone 239 = .ok (.ireturn, 1) := by decide +kernel
theorem dX11_isDone_240 : decode cX11_isDone 240 = .ok (.aload_n 0, 1) := by decide +kernel
theorem dX11_isDone_241 : decode cX11_isDone 241 = .ok (.iload_n 2, 1) := by decide +kernel
theorem dX11_isDone_242 : decode cX11_isDone 242 = .ok (.invokevirtual 290, 3) := by decide +kernel
theorem dX11_isDone_245 : decode cX11_isDone 245 = .ok (.iconst (-1), 1) := by decide +kernel
theorem dX11_isDone_246 : decode cX11_isDone 246 = .ok (.if_icmp .eq 7, 3) := by decide +kernel
theorem dX11_isDone_249 : decode cX11_isDone 249 = .ok (.iconst 1, 1) := by decide +kernel
theorem dX11_isDone_250 : decode cX11_isDone 250 = .ok (.goto 4, 3) := by decide +kernel
theorem dX11_isDone_253 : decode cX11_isDone 253 = .ok (.iconst 0, 1) := by decide +kernel
theorem dX11_isDone_254 : decode cX11_isDone 254 = .ok (.ireturn, 1) := by decide +kernel
theorem dX11_isDone_255 : decode cX11_isDone 255 = .ok (.aload_n 0, 1) := by decide +kernel
theorem dX11_isDone_256 : decode cX11_isDone 256 = .ok (.iload_n 2, 1) := by decide +kernel
theorem dX11_isDone_257 : decode cX11_isDone 257 = .ok (.invokevirtual 293, 3) := by decide +kernel
theorem dX11_isDone_260 : decode cX11_isDone 260 = .ok (.ireturn, 1) := by decide +kernel
theorem dX11_isDone_261 : decode cX11_isDone 261 = .ok (.aload_n 0, 1) := by decide +kernel
theorem dX11_isDone_262 : decode cX11_isDone 262 = .ok (.iload_n 2, 1) := by decide +kernel
theorem dX11_isDone_263 : decode cX11_isDone 263 = .ok (.invokevirtual 296, 3) := by decide +kernel
theorem dX11_isDone_266 : decode cX11_isDone 266 = .ok (.iconst (-1), 1) := by decide +kernel
theorem dX11_isDone_267 : decode cX11_isDone 267 = .ok (.if_icmp .eq 7, 3) := by decide +kernel
theorem dX11_isDone_270 : decode cX11_isDone 270 = .ok (.iconst 1, 1) := by decide +kernel
theorem dX11_isDone_271 : decode cX11_isDone 271 = .ok (.goto 4, 3) := by decide +kernel
theorem dX11_isDone_274 : decode cX11_isDone 274 = .ok (.iconst 0, 1) := by decide +kernel
theorem dX11_isDone_275 : decode cX11_isDone 275 = .ok (.ireturn, 1) := by decide +kernel
theorem dX11_isDone_276 : decode cX11_isDone 276 = .ok (.aload_n 0, 1) := by decide +kernel
theorem dX11_isDone_277 : decode cX11_isDone 277 = .ok (.iload_n 2, 1) := by decide +kernel
theorem dX11_isDone_278 : decode cX11_isDone 278 = .ok (.invokevirtual 299, 3) := by decide +kernel
theorem dX11_isDone_281 : decode cX11_isDone 281 = .ok (.ireturn, 1) := by decide +kernel
theorem dX11_isDone_282 : decode cX11_isDone 282 = .ok (.aload_n 0, 1) := by decide +kernel
theorem dX11_isDone_283 : decode cX11_isDone 283 = .ok (.invokevirtual 302, 3) := by decide +kernel
theorem dX11_isDone_286 : decode cX11_isDone 286 = .ok (.lconst 0, 1) := by decide +kernel
theorem dX11_isDone_287 : decode cX11_isDone 287 = .ok (.lcmp, 1) := by decide +kernel
theorem dX11_isDone_288 : decode cX11_isDone 288 = .ok (.ifCond .lt 7, 3) := by decide +kernel
theorem dX11_isDone_291 : decode cX11_isDone 291 = .ok (.iconst 1, 1) := by decide +kernel
theorem dX11_isDone_292 : decode cX11_isDone 292 = .ok (.goto 4, 3) := by decide +kernel
theorem dX11_isDone_295 : decode cX11_isDone 295 = .ok (.iconst 0, 1) := by decide +kernel
theorem dX11_isDone_296 : decode cX11_isDone 296 = .ok (.ireturn, 1) := by decide +kernel
theorem dX11_isDone_297 : decode cX11_isDone 297 = .ok (.aload_n 0, 1) := by decide +kernel
theorem dX11_isDone_298 : decode cX11_isDone 298 = .ok (.iload_n 2, 1) := by decide +kernel
theorem dX11_isDone_299 : decode cX11_isDone 299 = .ok (.invokevirtual 305, 3) := by decide +kernel
theorem dX11_isDone_302 : decode cX11_isDone 302 = .ok (.ireturn, 1) := by decide +kernel
theorem dX11_script_0 : decode cX11_script 0 = .ok (.aload_n 0, 1) := by decide +kernel
theorem dX11_script_1 : decode cX11_script 1 = .ok (.iconst 0, 1) := by decide +kernel
theorem dX11_script_2 : decode cX11_script 2 = .ok (.putfield 223, 3) := by decide +kernel
theorem dX11_script_5 : decode cX11_script 5 = .ok (.aload_n 0, 1) := by decide +kernel
theorem dX11_script_6 : decode cX11_script 6 = .ok (.iconst 0, 1) := by decide +kernel
theorem dX11_script_7 : decode cX11_script 7 = .ok (.putfield 226, 3) := by decide +kernel
theorem dX11_script_10 : decode cX11_script 10 = .ok (.aload_n 0, 1) := by decide +kernel
theorem dX11_script_11 : decode cX11_script 11 = .ok (.iconst (-1), 1) := by decide +kernel
theorem dX11_script_12 : decode cX11_script 12 = .ok (.putfield 33, 3) := by decide +kernel
theorem dX11_script_15 : decode cX11_script 15 = .ok (.aload_n 0, 1) := by decide +kernel
theorem dX11_script_16 : decode cX11_script 16 = .ok (.iconst (-1), 1) := by decide +kernel
theorem dX11_script_17 : decode cX11_script 17 = .ok (.putfield 37, 3) := by decide +kernel
theorem dX11_script_20 : decode cX11_script 20 = .ok (.aload_n 0, 1) := by decide +kernel
theorem dX11_script_21 : decode cX11_script 21 = .ok (.iconst 0, 1) := by decide +kernel
theorem dX11_script_22 : decode cX11_script 22 = .ok (.putfield 257, 3) := by decide +kernel
theorem dX11_script_25 : decode cX11_script 25 = .ok (.aload_n 0, 1) := by decide +kernel
theorem dX11_script_26 : decode cX11_script 26 = .ok (.iconst 0, 1) := by decide +kernel
theorem dX11_script_27 : decode cX11_script 27 = .ok (.putfield 229, 3) := by decide +kernel
theorem dX11_script_30 : decode cX11_script 30 = .ok (.aload_n 0, 1) := by decide +kernel
theorem dX11_script_31 : decode cX11_script 31 = .ok (.invokevirtual 243, 3) := by decide +kernel
theorem dX11_script_34 : decode cX11_script 34 = .ok (.aload_n 0, 1) := by decide +kernel
theorem dX11_script_35 : decode cX11_script 35 = .ok (.getfield 229, 3) := by decide +kernel
theorem dX11_script_38 : decode cX11_script 38 = .ok (.aload_n 0, 1) := by decide +kernel
theorem dX11_script_39 : decode cX11_script 39 = .ok (.getfield 217, 3) := by decide +kernel
theorem dX11_script_42 : decode cX11_script 42 = .ok (.if_icmp .ge 21, 3) := by decide +kernel
theorem dX11_script_45 : decode cX11_script 45 = .ok (.aload_n 0, 1) := by decide +kernel
theorem dX11_script_46 : decode cX11_script 46 = .ok (.getfield 223, 3) := by decide +kernel
theorem dX11_script_49 : decode cX11_script 49 = .ok (.ifCond .ne 14, 3) := by decide +kernel
theorem dX11_script_52 : decode cX11_script 52 = .ok (.aload_n 0, 1) := by decide +kernel
theorem dX11_script_53 : decode cX11_script 53 = .ok (.invokevirtual 308, 3) := by decide +kernel
theorem dX11_script_56 : decode cX11_script 56 = .ok (.aload_n 0, 1) := by decide +kernel
theorem dX11_script_57 : decode cX11_script 57 = .ok (.invokevirtual 243, 3) := by decide +kernel
theorem dX11_script_60 : decode cX11_script 60 = .ok (.goto (-26), 3) := by decide +kernel
theorem dX11_script_63 : decode cX11_script 63 = .ok (.aload_n 0, 1) := by decide +kernel
theorem dX11_script_64 : decode cX11_script 64 = .ok (.iconst 0, 1) := by decide +kernel
theorem dX11_script_65 : decode cX11_script 65 = .ok (.putfield 217, 3) := by decide +kernel
theorem dX11_script_68 : decode cX11_script 68 = .ok (.aload_n 0, 1) := by decide +kernel
theorem dX11_script_69 : decode cX11_script 69 = .ok (.getfield 223, 3) := by decide +kernel
theorem dX11_script_72 : decode cX11_script 72 = .ok (.ifCond .eq 5, 3) := by decide +kernel
theorem dX11_script_75 : decode cX11_script 75 = .ok (.iconst (-1), 1) := by decide +kernel
theorem dX11_script_76 : decode cX11_script 76 = .ok (.ireturn, 1) := by decide +kernel
theorem dX11_script_77 : decode cX11_script 77 = .ok (.aload_n 0, 1) := by decide +kernel
theorem dX11_script_78 : decode cX11_script 78 = .ok (.invokevirtual 311, 3) := by decide +kernel
theorem dX11_script_81 : decode cX11_script 81 = .ok (.aload_n 0, 1) := by decide +kernel
theorem dX11_script_82 : decode cX11_script 82 = .ok (.iconst 1, 1) := by decide +kernel
theorem dX11_script_83 : decode cX11_script 83 = .ok (.putfield 110, 3) := by decide +kernel
theorem dX11_script_86 : decode cX11_script 86 = .ok (.iconst 0, 1) := by decide +kernel
theorem dX11_script_87 : decode cX11_script 87 = .ok (.istore_n 1, 1) := by decide +kernel
theorem dX11_script_88 : decode cX11_script 88 = .ok (.iload_n 1, 1) := by decide +kernel
theorem dX11_script_89 : decode cX11_script 89 = .ok (.aload_n 0, 1) := by decide +kernel
theorem dX11_script_90 : decode cX11_script 90 = .ok (.getfield 257, 3) := by decide +kernel
theorem dX11_script_93 : decode cX11_script 93 = .ok (.if_icmp .ge 17, 3) := by decide +kernel
theorem dX11_script_96 : decode cX11_script 96 = .ok (.aload_n 0, 1) := by decide +kernel
theorem dX11_script_97 : decode cX11_script 97 = .ok (.iload_n 1, 1) := by decide +kernel
theorem dX11_script_98 : decode cX11_script 98 = .ok (.invokevirtual 314, 3) := by decide +kernel
theorem dX11_script_101 : decode cX11_script 101 = .ok (.ifCond .eq 9, 3) := by decide +kernel
theorem dX11_script_104 : decode cX11_script 104 = .ok (.iinc 1 1, 3) := by decide +kernel
theorem dX11_script_107 : decode cX11_script 107 = .ok (.goto (-19), 3) := by decide +kernel
theorem dX11_script_110 : decode cX11_script 110 = .ok (.aload_n 0, 1) := by decide +kernel
theorem dX11_script_111 : decode cX11_script 111 = .ok (.iconst 0, 1) := by decide +kernel
theorem dX11_script_112 : decode cX11_script 112 = .ok (.putfield 110, 3) := by decide +kernel
theorem dX11_script_115 : decode cX11_script 115 = .ok (.aload_n 0, 1) := by decide +kernel
theorem dX11_script_116 : decode cX11_script 116 = .ok (.iload_n 1, 1) := by decide +kernel
theorem dX11_script_117 : decode cX11_script 117 = .ok (.aload_n 0, 1) := by decide +kernel
theorem dX11_script_118 : decode cX11_script 118 = .ok (.getfield 257, 3) := by decide +kernel
theorem dX11_script_121 : decode cX11_script 121 = .ok (.if_icmp .ge 7, 3) := by decide +kernel
theorem dX11_script_124 : decode cX11_script 124 = .ok (.iload_n 1, 1) := by decide +kernel
theorem dX11_script_125 : decode cX11_script 125 = .ok (.goto 4, 3) := by decide +kernel
theorem dX11_script_128 : decode cX11_script 128 = .ok (.iconst (-1), 1) := by decide +kernel
theorem dX11_script_129 : decode cX11_script 129 = .ok (.putfield 37, 3) := by decide +kernel
theorem dX11_script_132 : decode cX11_script 132 = .ok (.iload_n 1, 1) := by decide +kernel
theorem dX11_script_133 : decode cX11_script 133 = .ok (.ifCond .le 11, 3) := by decide +kernel
theorem dX11_script_136 : decode cX11_script 136 = .ok (.aload_n 0, 1) := by decide +kernel
theorem dX11_script_137 : decode cX11_script 137 = .ok (.aload_n 0, 1) := by decide +kernel
theorem dX11_script_138 : decode cX11_script 138 = .ok (.getfield 13, 3) := by decide +kernel
theorem dX11_script_141 : decode cX11_script 141 = .ok (.invokevirtual 114, 3) := by decide +kernel
theorem dX11_script_144 : decode cX11_script 144 = .ok (.iload_n 1, 1) := by decide +kernel
theorem dX11_script_145 : decode cX11_script 145 = .ok (.ireturn, 1) := by decide +kernel
theorem dX11_fault_0 : decode cX11_fault 0 = .ok (.iload_n 1, 1) := by decide +kernel
theorem dX11_fault_1 : decode cX11_fault 1 = .ok (.ifCond .ne 10, 3) := by decide +kernel
theorem dX11_fault_4 : decode cX11_fault 4 = .ok (.aload_n 0, 1) := by decide +kernel
theorem dX11_fault_5 : decode cX11_fault 5 = .ok (.getfield 226, 3) := by decide +kernel
theorem dX11_fault_8 : decode cX11_fault 8 = .ok (.goto 28, 3) := by decide +kernel
theorem dX11_fault_11 : decode cX11_fault 11 = .ok (.iload_n 1, 1) := by decide +kernel
theorem dX11_fault_12 : decode cX11_fault 12 = .ok (.iconst 1, 1) := by decide +kernel
theorem dX11_fault_13 : decode cX11_fault 13 = .ok (.if_icmp .ne 10, 3) := by decide +kernel
theorem dX11_fault_16 : decode cX11_fault 16 = .ok (.aload_n 0, 1) := by decide +kernel
theorem dX11_fault_17 : decode cX11_fault 17 = .ok (.getfield 33, 3) := by decide +kernel
theorem dX11_fault_20 : decode cX11_fault 20 = .ok (.goto 16, 3) := by decide +kernel
theorem dX11_fault_23 : decode cX11_fault 23 = .ok (.iload_n 1, 1) := by decide +kernel
theorem dX11_fault_24 : decode cX11_fault 24 = .ok (.iconst 2, 1) := by decide +kernel
theorem dX11_fault_25 : decode cX11_fault 25 = .ok (.if_icmp .ne 10, 3) := by decide +kernel
theorem dX11_fault_28 : decode cX11_fault 28 = .ok (.aload_n 0, 1) := by decide +kernel
theorem dX11_fault_29 : decode cX11_fault 29 = .ok (.getfield 37, 3) := by decide +kernel
theorem dX11_fault_32 : decode cX11_fault 32 = .ok (.goto 4, 3) := by decide +kernel
theorem dX11_fault_35 : decode cX11_fault 35 = .ok (.iconst (-1), 1) := by decide +kernel
theorem dX11_fault_36 : decode cX11_fault 36 = .ok (.ireturn, 1) := by decide +kernel
theorem dX11_isSpan_0 : decode cX11_isSpan 0 = .ok (.iload_n 1, 1) := by decide +kernel
theorem dX11_isSpan_1 : decode cX11_isSpan 1 = .ok (.i2l, 1) := by decide +kernel
theorem dX11_isSpan_2 : decode cX11_isSpan 2 = .ok (.lconst 0, 1) := by decide +kernel
theorem dX11_isSpan_3 : decode cX11_isSpan 3 = .ok (.aload_n 0, 1) := by decide +kernel
theorem dX11_isSpan_4 : decode cX11_isSpan 4 = .ok (.getfield 7, 3) := by decide +kernel
theorem dX11_isSpan_7 : decode cX11_isSpan 7 = .ok (.iconst 1, 1) := by decide +kernel
theorem dX11_isSpan_8 : decode cX11_isSpan 8 = .ok (.iaload, 1) := by decide +kernel
theorem dX11_isSpan_9 : decode cX11_isSpan 9 = .ok (.iconst 1, 1) := by decide +kernel
theorem dX11_isSpan_10 : decode cX11_isSpan 10 = .ok (.isub, 1) := by decide +kernel
theorem dX11_isSpan_11 : decode cX11_isSpan 11 = .ok (.i2l, 1) := by decide +kernel
theorem dX11_isSpan_12 : decode cX11_isSpan 12 = .ok (.invokestatic 45, 3) := by decide +kernel
theorem dX11_isSpan_15 : decode cX11_isSpan 15 = .ok (.ireturn, 1) := by decide +kernel
theorem dX11_valuesIn_0 : decode cX11_valuesIn 0 = .ok (.iconst 0, 1) := by decide +kernel
theorem dX11_valuesIn_1 : decode cX11_valuesIn 1 = .ok (.istore_n 2, 1) := by decide +kernel
theorem dX11_valuesIn_2 : decode cX11_valuesIn 2 = .ok (.aload_n 0, 1) := by decide +kernel
theorem dX11_valuesIn_3 : decode cX11_valuesIn 3 = .ok (.getfield 7, 3) := by decide +kernel
theorem dX11_valuesIn_6 : decode cX11_valuesIn 6 = .ok (.bipush 10, 2) := by decide +kernel
theorem dX11_valuesIn_8 : decode cX11_valuesIn 8 = .ok (.iload_n 1, 1) := by decide +kernel
