theorem dX9_init_0 : decode cX9_init 0 = .ok (.aload_n 0, 1) := by decide +kernel
theorem dX9_init_1 : decode cX9_init 1 = .ok (.invokespecial 3, 3) := by decide +kernel
theorem dX9_init_4 : decode cX9_init 4 = .ok (.aload_n 0, 1) := by decide +kernel
theorem dX9_init_5 : decode cX9_init 5 = .ok (.sipush 6000, 3) := by decide +kernel
theorem dX9_init_8 : decode cX9_init 8 = .ok (.newarray .int, 2) := by decide +kernel
theorem dX9_init_10 : decode cX9_init 10 = .ok (.putfield 9, 3) := by decide +kernel
theorem dX9_init_13 : decode cX9_init 13 = .ok (.aload_n 0, 1) := by decide +kernel
theorem dX9_init_14 : decode cX9_init 14 = .ok (.sipush 1000, 3) := by decide +kernel
theorem dX9_init_17 : decode cX9_init 17 = .ok (.newarray .int, 2) := by decide +kernel
theorem dX9_init_19 : decode cX9_init 19 = .ok (.putfield 15, 3) := by decide +kernel
theorem dX9_init_22 : decode cX9_init 22 = .ok (.aload_n 0, 1) := by decide +kernel
theorem dX9_init_23 : decode cX9_init 23 = .ok (.new 18, 3) := by decide +kernel
theorem dX9_init_26 : decode cX9_init 26 = .ok (.dup, 1) := by decide +kernel
theorem dX9_init_27 : decode cX9_init 27 = .ok (.invokespecial 20, 3) := by decide +kernel
theorem dX9_init_30 : decode cX9_init 30 = .ok (.putfield 21, 3) := by decide +kernel
theorem dX9_init_33 : decode cX9_init 33 = .ok (.aload_n 0, 1) := by decide +kernel
theorem dX9_init_34 : decode cX9_init 34 = .ok (.bipush 6, 2) := by decide +kernel
theorem dX9_init_36 : decode cX9_init 36 = .ok (.anewarray 18, 3) := by decide +kernel
theorem dX9_init_39 : decode cX9_init 39 = .ok (.putfield 25, 3) := by decide +kernel
theorem dX9_init_42 : decode cX9_init 42 = .ok (.aload_n 0, 1) := by decide +kernel
theorem dX9_init_43 : decode cX9_init 43 = .ok (.bipush 12, 2) := by decide +kernel
theorem dX9_init_45 : decode cX9_init 45 = .ok (.anewarray 29, 3) := by decide +kernel
theorem dX9_init_48 : decode cX9_init 48 = .ok (.putfield 31, 3) := by decide +kernel
theorem dX9_init_51 : decode cX9_init 51 = .ok (.aload_n 0, 1) := by decide +kernel
theorem dX9_init_52 : decode cX9_init 52 = .ok (.getfield 21, 3) := by decide +kernel
theorem dX9_init_55 : decode cX9_init 55 = .ok (.iconst 1, 1) := by decide +kernel
theorem dX9_init_56 : decode cX9_init 56 = .ok (.putfield 35, 3) := by decide +kernel
theorem dX9_init_59 : decode cX9_init 59 = .ok (.aload_n 0, 1) := by decide +kernel
theorem dX9_init_60 : decode cX9_init 60 = .ok (.getfield 21, 3) := by decide +kernel
theorem dX9_init_63 : decode cX9_init 63 = .ok (.iconst 1, 1) := by decide +kernel
theorem dX9_init_64 : decode cX9_init 64 = .ok (.putfield 39, 3) := by decide +kernel
theorem dX9_init_67 : decode cX9_init 67 = .ok (.aload_n 0, 1) := by decide +kernel
theorem dX9_init_68 : decode cX9_init 68 = .ok (.getfield 21, 3) := by decide +kernel
theorem dX9_init_71 : decode cX9_init 71 = .ok (.iconst 0, 1) := by decide +kernel
theorem dX9_init_72 : decode cX9_init 72 = .ok (.iconst 0, 1) := by decide +kernel
theorem dX9_init_73 : decode cX9_init 73 = .ok (.iconst 0, 1) := by decide +kernel
theorem dX9_init_74 : decode cX9_init 74 = .ok (.invokevirtual 42, 3) := by decide +kernel
theorem dX9_init_77 : decode cX9_init 77 = .ok (.iconst 0, 1) := by decide +kernel
theorem dX9_init_78 : decode cX9_init 78 = .ok (.istore_n 1, 1) := by decide +kernel
theorem dX9_init_79 : decode cX9_init 79 = .ok (.iload_n 1, 1) := by decide +kernel
theorem dX9_init_80 : decode cX9_init 80 = .ok (.bipush 6, 2) := by decide +kernel
theorem dX9_init_82 : decode cX9_init 82 = .ok (.if_icmp .ge 22, 3) := by decide +kernel
theorem dX9_init_85 : decode cX9_init 85 = .ok (.aload_n 0, 1) := by decide +kernel
theorem dX9_init_86 : decode cX9_init 86 = .ok (.getfield 25, 3) := by decide +kernel
theorem dX9_init_89 : decode cX9_init 89 = .ok (.iload_n 1, 1) := by decide +kernel
theorem dX9_init_90 : decode cX9_init 90 = .ok (.new 18, 3) := by decide +kernel
theorem dX9_init_93 : decode cX9_init 93 = .ok (.dup, 1) := by decide +kernel
theorem dX9_init_94 : decode cX9_init 94 = .ok (.invokespecial 20, 3) := by decide +kernel
theorem dX9_init_97 : decode cX9_init 97 = .ok (.aastore, 1) := by decide +kernel
theorem dX9_init_98 : decode cX9_init 98 = .ok (.iinc 1 1, 3) := by decide +kernel
theorem dX9_init_101 : decode cX9_init 101 = .ok (.goto (-22), 3) := by decide +kernel
theorem dX9_init_104 : decode cX9_init 104 = .ok (.iconst 0, 1) := by decide +kernel
theorem dX9_init_105 : decode cX9_init 105 = .ok (.istore_n 1, 1) := by decide +kernel
theorem dX9_init_106 : decode cX9_init 106 = .ok (.iload_n 1, 1) := by decide +kernel
theorem dX9_init_107 : decode cX9_init 107 = .ok (.bipush 12, 2) := by decide +kernel
theorem dX9_init_109 : decode cX9_init 109 = .ok (.if_icmp .ge 22, 3) := by decide +kernel
theorem dX9_init_112 : decode cX9_init 112 = .ok (.aload_n 0, 1) := by decide +kernel
theorem dX9_init_113 : decode cX9_init 113 = .ok (.getfield 31, 3) := by decide +kernel
theorem dX9_init_116 : decode cX9_init 116 = .ok (.iload_n 1, 1) := by decide +kernel
theorem dX9_init_117 : decode cX9_init 117 = .ok (.new 29, 3) := by decide +kernel
theorem dX9_init_120 : decode cX9_init 120 = .ok (.dup, 1) := by decide +kernel
theorem dX9_init_121 : decode cX9_init 121 = .ok (.invokespecial 46, 3) := by decide +kernel
theorem dX9_init_124 : decode cX9_init 124 = .ok (.aastore, 1) := by decide +kernel
theorem dX9_init_125 : decode cX9_init 125 = .ok (.iinc 1 1, 3) := by decide +kernel
theorem dX9_init_128 : decode cX9_init 128 = .ok (.goto (-22), 3) := by decide +kernel
theorem dX9_init_131 : decode cX9_init 131 = .ok (.aload_n 0, 1) := by decide +kernel
theorem dX9_init_132 : decode cX9_init 132 = .ok (.bipush 63, 2) := by decide +kernel
theorem dX9_init_134 : decode cX9_init 134 = .ok (.putfield 47, 3) := by decide +kernel
theorem dX9_init_137 : decode cX9_init 137 = .ok (.aload_n 0, 1) := by decide +kernel
theorem dX9_init_138 : decode cX9_init 138 = .ok (.iconst 4, 1) := by decide +kernel
theorem dX9_init_139 : decode cX9_init 139 = .ok (.putfield 50, 3) := by decide +kernel
theorem dX9_init_142 : decode cX9_init 142 = .ok (.return_, 1) := by decide +kernel
theorem dX9_copyFrom_0 : decode cX9_copyFrom 0 = .ok (.aload_n 1, 1) := by decide +kernel
theorem dX9_copyFrom_1 : decode cX9_copyFrom 1 = .ok (.getfield 9, 3) := by decide +kernel
theorem dX9_copyFrom_4 : decode cX9_copyFrom 4 = .ok (.iconst 0, 1) := by decide +kernel
theorem dX9_copyFrom_5 : decode cX9_copyFrom 5 = .ok (.aload_n 0, 1) := by decide +kernel
theorem dX9_copyFrom_6 : decode cX9_copyFrom 6 = .ok (.getfield 9, 3) := by decide +kernel
theorem dX9_copyFrom_9 : decode cX9_copyFrom 9 = .ok (.iconst 0, 1) := by decide +kernel
theorem dX9_copyFrom_10 : decode cX9_copyFrom 10 = .ok (.aload_n 0, 1) := by decide +kernel
theorem dX9_copyFrom_11 : decode cX9_copyFrom 11 = .ok (.getfield 9, 3) := by decide +kernel
theorem dX9_copyFrom_14 : decode cX9_copyFrom 14 = .ok (.arraylength, 1) := by decide +kernel
theorem dX9_copyFrom_15 : decode cX9_copyFrom 15 = .ok (.invokestatic 53, 3) := by decide +kernel
theorem dX9_copyFrom_18 : decode cX9_copyFrom 18 = .ok (.aload_n 1, 1) := by decide +kernel
theorem dX9_copyFrom_19 : decode cX9_copyFrom 19 = .ok (.getfield 15, 3) := by decide +kernel
theorem dX9_copyFrom_22 : decode cX9_copyFrom 22 = .ok (.iconst 0, 1) := by decide +kernel
theorem dX9_copyFrom_23 : decode cX9_copyFrom 23 = .ok (.aload_n 0, 1) := by decide +kernel
theorem dX9_copyFrom_24 : decode cX9_copyFrom 24 = .ok (.getfield 15, 3) := by decide +kernel
theorem dX9_copyFrom_27 : decode cX9_copyFrom 27 = .ok (.iconst 0, 1) := by decide +kernel
theorem dX9_copyFrom_28 : decode cX9_copyFrom 28 = .ok (.sipush 1000, 3) := by decide +kernel
theorem dX9_copyFrom_31 : decode cX9_copyFrom 31 = .ok (.invokestatic 53, 3) := by decide +kernel
theorem dX9_copyFrom_34 : decode cX9_copyFrom 34 = .ok (.aload_n 0, 1) := by decide +kernel
theorem dX9_copyFrom_35 : decode cX9_copyFrom 35 = .ok (.getfield 21, 3) := by decide +kernel
theorem dX9_copyFrom_38 : decode cX9_copyFrom 38 = .ok (.aload_n 1, 1) := by decide +kernel
theorem dX9_copyFrom_39 : decode cX9_copyFrom 39 = .ok (.getfield 21, 3) := by decide +kernel
theorem dX9_copyFrom_42 : decode cX9_copyFrom 42 = .ok (.invokevirtual 59, 3) := by decide +kernel
theorem dX9_copyFrom_45 : decode cX9_copyFrom 45 = .ok (.iconst 0, 1) := by decide +kernel
theorem dX9_copyFrom_46 : decode cX9_copyFrom 46 = .ok (.istore_n 2, 1) := by decide +kernel
theorem dX9_copyFrom_47 : decode cX9_copyFrom 47 = .ok (.iload_n 2, 1) := by decide +kernel
theorem dX9_copyFrom_48 : decode cX9_copyFrom 48 = .ok (.bipush 6, 2) := by decide +kernel
theorem dX9_copyFrom_50 : decode cX9_copyFrom 50 = .ok (.if_icmp .ge 24, 3) := by decide +kernel
theorem dX9_copyFrom_53 : decode cX9_copyFrom 53 = .ok (.aload_n 0, 1) := by decide +kernel
theorem dX9_copyFrom_54 : decode cX9_copyFrom 54 = .ok (.getfield 25, 3) := by decide +kernel
theorem dX9_copyFrom_57 : decode cX9_copyFrom 57 = .ok (.iload_n 2, 1) := by decide +kernel
theorem dX9_copyFrom_58 : decode cX9_copyFrom 58 = .ok (.aaload, 1) := by decide +kernel
theorem dX9_copyFrom_59 : decode cX9_copyFrom 59 = .ok (.aload_n 1, 1) := by decide +kernel
theorem dX9_copyFrom_60 : decode cX9_copyFrom 60 = .ok (.getfield 25, 3) := by decide +kernel
theorem dX9_copyFrom_63 : decode cX9_copyFrom 63 = .ok (.iload_n 2, 1) := by decide +kernel
theorem dX9_copyFrom_64 : decode cX9_copyFrom 64 = .ok (.aaload, 1) := by decide +kernel
theorem dX9_copyFrom_65 : decode cX9_copyFrom 65 = .ok (.invokevirtual 59, 3) := by decide +kernel
theorem dX9_copyFrom_68 : decode cX9_copyFrom 68 = .ok (.iinc 2 1, 3) := by decide +kernel
theorem dX9_copyFrom_71 : decode cX9_copyFrom 71 = .ok (.goto (-24), 3) := by decide +kernel
theorem dX9_copyFrom_74 : decode cX9_copyFrom 74 = .ok (.aload_n 0, 1) := by decide +kernel
theorem dX9_copyFrom_75 : decode cX9_copyFrom 75 = .ok (.aload_n 1, 1) := by decide +kernel
theorem dX9_copyFrom_76 : decode cX9_copyFrom 76 = .ok (.getfield 63, 3) := by decide +kernel
theorem dX9_copyFrom_79 : decode cX9_copyFrom 79 = .ok (.putfield 63, 3) := by decide +kernel
theorem dX9_copyFrom_82 : decode cX9_copyFrom 82 = .ok (.iconst 0, 1) := by decide +kernel
theorem dX9_copyFrom_83 : decode cX9_copyFrom 83 = .ok (.istore_n 2, 1) := by decide +kernel
theorem dX9_copyFrom_84 : decode cX9_copyFrom 84 = .ok (.iload_n 2, 1) := by decide +kernel
theorem dX9_copyFrom_85 : decode cX9_copyFrom 85 = .ok (.aload_n 0, 1) := by decide +kernel
theorem dX9_copyFrom_86 : decode cX9_copyFrom 86 = .ok (.getfield 63, 3) := by decide +kernel
theorem dX9_copyFrom_89 : decode cX9_copyFrom 89 = .ok (.if_icmp .ge 24, 3) := by decide +kernel
theorem dX9_copyFrom_92 : decode cX9_copyFrom 92 = .ok (.aload_n 0, 1) := by decide +kernel
theorem dX9_copyFrom_93 : decode cX9_copyFrom 93 = .ok (.getfield 31, 3) := by decide +kernel
theorem dX9_copyFrom_96 : decode cX9_copyFrom 96 = .ok (.iload_n 2, 1) := by decide +kernel
theorem dX9_copyFrom_97 : decode cX9_copyFrom 97 = .ok (.aaload, 1) := by decide +kernel
theorem dX9_copyFrom_98 : decode cX9_copyFrom 98 = .ok (.aload_n 1, 1) := by decide +kernel
theorem dX9_copyFrom_99 : decode cX9_copyFrom 99 = .ok (.getfield 31, 3) := by decide +kernel
theorem dX9_copyFrom_102 : decode cX9_copyFrom 102 = .ok (.iload_n 2, 1) := by decide +kernel
theorem dX9_copyFrom_103 : decode cX9_copyFrom 103 = .ok (.aaload, 1) := by decide +kernel
theorem dX9_copyFrom_104 : decode cX9_copyFrom 104 = .ok (.invokevirtual 66, 3) := by decide +kernel
theorem dX9_copyFrom_107 : decode cX9_copyFrom 107 = .ok (.iinc 2 1, 3) := by decide +kernel
theorem dX9_copyFrom_110 : decode cX9_copyFrom 110 = .ok (.goto (-26), 3) := by decide +kernel
theorem dX9_copyFrom_113 : decode cX9_copyFrom 113 = .ok (.aload_n 0, 1) := by decide +kernel
theorem dX9_copyFrom_114 : decode cX9_copyFrom 114 = .ok (.aload_n 1, 1) := by decide +kernel
theorem dX9_copyFrom_115 : decode cX9_copyFrom 115 = .ok (.getfield 47, 3) := by decide +kernel
theorem dX9_copyFrom_118 : decode cX9_copyFrom 118 = .ok (.putfield 47, 3) := by decide +kernel
theorem dX9_copyFrom_121 : decode cX9_copyFrom 121 = .ok (.aload_n 0, 1) := by decide +kernel
theorem dX9_copyFrom_122 : decode cX9_copyFrom 122 = .ok (.aload_n 1, 1) := by decide +kernel
theorem dX9_copyFrom_123 : decode cX9_copyFrom 123 = .ok (.getfield 50, 3) := by decide +kernel
theorem dX9_copyFrom_126 : decode cX9_copyFrom 126 = .ok (.putfield 50, 3) := by decide +kernel
theorem dX9_copyFrom_129 : decode cX9_copyFrom 129 = .ok (.return_, 1) := by decide +kernel
theorem dX9_isUp_0 : decode cX9_isUp 0 = .ok (.aload_n 0, 1) := by decide +kernel
theorem dX9_isUp_1 : decode cX9_isUp 1 = .ok (.getfield 47, 3) := by decide +kernel
theorem dX9_isUp_4 : decode cX9_isUp 4 = .ok (.iload_n 1, 1) := by decide +kernel
theorem dX9_isUp_5 : decode cX9_isUp 5 = .ok (.ishr, 1) := by decide +kernel
theorem dX9_isUp_6 : decode cX9_isUp 6 = .ok (.iconst 1, 1) := by decide +kernel
theorem dX9_isUp_7 : decode cX9_isUp 7 = .ok (.iand, 1) := by decide +kernel
theorem dX9_isUp_8 : decode cX9_isUp 8 = .ok (.iconst 1, 1) := by decide +kernel
theorem dX9_isUp_9 : decode cX9_isUp 9 = .ok (.if_icmp .ne 7, 3) := by decide +kernel
theorem dX9_isUp_12 : decode cX9_isUp 12 = .ok (.iconst 1, 1) := by decide +kernel
theorem dX9_isUp_13 : decode cX9_isUp 13 = .ok (.goto 4, 3) := by decide +kernel
theorem dX9_isUp_16 : decode cX9_isUp 16 = .ok (.iconst 0, 1) := by decide +kernel
theorem dX9_isUp_17 : decode cX9_isUp 17 = .ok (.ireturn, 1) := by decide +kernel
theorem dX9_bringUp_0 : decode cX9_bringUp 0 = .ok (.iload_n 1, 1) := by decide +kernel
theorem dX9_bringUp_1 : decode cX9_bringUp 1 = .ok (.invokestatic 69, 3) := by decide +kernel
theorem dX9_bringUp_4 : decode cX9_bringUp 4 = .ok (.ifCond .eq 11, 3) := by decide +kernel
theorem dX9_bringUp_7 : decode cX9_bringUp 7 = .ok (.aload_n 0, 1) := by decide +kernel
theorem dX9_bringUp_8 : decode cX9_bringUp 8 = .ok (.iload_n 1, 1) := by decide +kernel
theorem dX9_bringUp_9 : decode cX9_bringUp 9 = .ok (.invokevirtual 73, 3) := by decide +kernel
theorem dX9_bringUp_12 : decode cX9_bringUp 12 = .ok (.ifCond .eq 5, 3) := by decide +kernel
theorem dX9_bringUp_15 : decode cX9_bringUp 15 = .ok (.iconst 0, 1) := by decide +kernel
theorem dX9_bringUp_16 : decode cX9_bringUp 16 = .ok (.ireturn, 1) := by decide +kernel
theorem dX9_bringUp_17 : decode cX9_bringUp 17 = .ok (.aload_n 0, 1) := by decide +kernel
theorem dX9_bringUp_18 : decode cX9_bringUp 18 = .ok (.dup, 1) := by decide +kernel
theorem dX9_bringUp_19 : decode cX9_bringUp 19 = .ok (.getfield 47, 3) := by decide +kernel
theorem dX9_bringUp_22 : decode cX9_bringUp 22 = .ok (.iconst 1, 1) := by decide +kernel
theorem dX9_bringUp_23 : decode cX9_bringUp 23 = .ok (.iload_n 1, 1) := by decide +kernel
theorem dX9_bringUp_24 : decode cX9_bringUp 24 = .ok (.ishl, 1) := by decide +kernel
theorem dX9_bringUp_25 : decode cX9_bringUp 25 = .ok (.ior, 1) := by decide +kernel
theorem dX9_bringUp_26 : decode cX9_bringUp 26 = .ok (.putfield 47, 3) := by decide +kernel
theorem dX9_bringUp_29 : decode cX9_bringUp 29 = .ok (.iconst 1, 1) := by decide +kernel
theorem dX9_bringUp_30 : decode cX9_bringUp 30 = .ok (.ireturn, 1) := by decide +kernel
theorem dX9_valueOf_0 : decode cX9_valueOf 0 = .ok (.aload_n 0, 1) := by decide +kernel
theorem dX9_valueOf_1 : decode cX9_valueOf 1 = .ok (.getfield 9, 3) := by decide +kernel
theorem dX9_valueOf_4 : decode cX9_valueOf 4 = .ok (.iload_n 1, 1) := by decide +kernel
theorem dX9_valueOf_5 : decode cX9_valueOf 5 = .ok (.sipush 1000, 3) := by decide +kernel
theorem dX9_valueOf_8 : decode cX9_valueOf 8 = .ok (.imul, 1) := by decide +kernel
theorem dX9_valueOf_9 : decode cX9_valueOf 9 = .ok (.iload_n 2, 1) := by decide +kernel
theorem dX9_valueOf_10 : decode cX9_valueOf 10 = .ok (.iadd, 1) := by decide +kernel
theorem dX9_valueOf_11 : decode cX9_valueOf 11 = .ok (.iaload, 1) := by decide +kernel
theorem dX9_valueOf_12 : decode cX9_valueOf 12 = .ok (.ireturn, 1) := by decide +kernel
theorem dX9_putValue_0 : decode cX9_putValue 0 = .ok (.aload_n 0, 1) := by decide +kernel
theorem dX9_putValue_1 : decode cX9_putValue 1 = .ok (.getfield 9, 3) := by decide +kernel
theorem dX9_putValue_4 : decode cX9_putValue 4 = .ok (.iload_n 1, 1) := by decide +kernel
theorem dX9_putValue_5 : decode cX9_putValue 5 = .ok (.sipush 1000, 3) := by decide +kernel
theorem dX9_putValue_8 : decode cX9_putValue 8 = .ok (.imul, 1) := by decide +kernel
theorem dX9_putValue_9 : decode cX9_putValue 9 = .ok (.iload_n 2, 1) := by decide +kernel
theorem dX9_putValue_10 : decode cX9_putValue 10 = .ok (.iadd, 1) := by decide +kernel
theorem dX9_putValue_11 : decode cX9_putValue 11 = .ok (.iload_n 3, 1) := by decide +kernel
theorem dX9_putValue_12 : decode cX9_putValue 12 = .ok (.iastore, 1) := by decide +kernel
theorem dX9_putValue_13 : decode cX9_putValue 13 = .ok (.return_, 1) := by decide +kernel
theorem dX9_loseValues_0 : decode cX9_loseValues 0 = .ok (.iload_n 2, 1) := by decide +kernel
theorem dX9_loseValues_1 : decode cX9_loseValues 1 = .ok (.istore 4, 2) := by decide +kernel
theorem dX9_loseValues_3 : decode cX9_loseValues 3 = .ok (.iload 4, 2) := by decide +kernel
theorem dX9_loseValues_5 : decode cX9_loseValues 5 = .ok (.iload_n 3, 1) := by decide +kernel
theorem dX9_loseValues_6 : decode cX9_loseValues 6 = .ok (.if_icmp .ge 17, 3) := by decide +kernel
theorem dX9_loseValues_9 : decode cX9_loseValues 9 = .ok (.aload_n 0, 1) := by decide +kernel
theorem dX9_loseValues_10 : decode cX9_loseValues 10 = .ok (.iload_n 1, 1) := by decide +kernel
theorem dX9_loseValues_11 : decode cX9_loseValues 11 = .ok (.iload 4, 2) := by decide +kernel
theorem dX9_loseValues_13 : decode cX9_loseValues 13 = .ok (.iconst 0, 1) := by decide +kernel
theorem dX9_loseValues_14 : decode cX9_loseValues 14 = .ok (.invokevirtual 76, 3) := by decide +kernel
theorem dX9_loseValues_17 : decode cX9_loseValues 17 = .ok (.iinc 4 1, 3) := by decide +kernel
theorem dX9_loseValues_20 : decode cX9_loseValues 20 = .ok (.goto (-17), 3) := by decide +kernel
theorem dX9_loseValues_23 : decode cX9_loseValues 23 = .ok (.return_, 1) := by decide +kernel
theorem dX9_valuesIn_0 : decode cX9_valuesIn 0 = .ok (.iconst 0, 1) := by decide +kernel
theorem dX9_valuesIn_1 : decode cX9_valuesIn 1 = .ok (.istore 4, 2) := by decide +kernel
theorem dX9_valuesIn_3 : decode cX9_valuesIn 3 = .ok (.iload_n 1, 1) := by decide +kernel
theorem dX9_valuesIn_4 : decode cX9_valuesIn 4 = .ok (.sipush 1000, 3) := by decide +kernel
theorem dX9_valuesIn_7 : decode cX9_valuesIn 7 = .ok (.imul, 1) := by decide +kernel
theorem dX9_valuesIn_8 : decode cX9_valuesIn 8 = .ok (.iload_n 2, 1) := by decide +kernel
theorem dX9_valuesIn_9 : decode cX9_valuesIn 9 = .ok (.iadd, 1) := by decide +kernel
theorem dX9_valuesIn_10 : decode cX9_valuesIn 10 = .ok (.istore 5, 2) := by decide +kernel
theorem dX9_valuesIn_12 : decode cX9_valuesIn 12 = .ok (.iload 5, 2) := by decide +kernel
theorem dX9_valuesIn_14 : decode cX9_valuesIn 14 = .ok (.iload_n 1, 1) := by decide +kernel
theorem dX9_valuesIn_15 : decode cX9_valuesIn 15 = .ok (.sipush 1000, 3) := by decide +kernel
theorem dX9_valuesIn_18 : decode cX9_valuesIn 18 = .ok (.imul, 1) := by decide +kernel
theorem dX9_valuesIn_19 : decode cX9_valuesIn 19 = .ok (.iload_n 3, 1) := by decide +kernel
theorem dX9_valuesIn_20 : decode cX9_valuesIn 20 = .ok (.iadd, 1) := by decide +kernel
theorem dX9_valuesIn_21 : decode cX9_valuesIn 21 = .ok (.if_icmp .ge 22, 3) := by decide +kernel
theorem dX9_valuesIn_24 : decode cX9_valuesIn 24 = .ok (.aload_n 0, 1) := by decide +kernel
theorem dX9_valuesIn_25 : decode cX9_valuesIn 25 = .ok (.getfield 9, 3) := by decide +kernel
theorem dX9_valuesIn_28 : decode cX9_valuesIn 28 = .ok (.iload 5, 2) := by decide +kernel
theorem dX9_valuesIn_30 : decode cX9_valuesIn 30 = .ok (.iaload, 1) := by decide +kernel
theorem dX9_valuesIn_31 : decode cX9_valuesIn 31 = .ok (.ifCond .eq 6, 3) := by decide +kernel
theorem dX9_valuesIn_34 : decode cX9_valuesIn 34 = .ok (.iinc 4 1, 3) := by decide +kernel
theorem dX9_valuesIn_37 : decode cX9_valuesIn 37 = .ok (.iinc 5 1, 3) := by decide +kernel
theorem dX9_valuesIn_40 : decode cX9_valuesIn 40 = .ok (.goto (-28), 3) := by decide +kernel
theorem dX9_valuesIn_43 : decode cX9_valuesIn 43 = .ok (.iload 4, 2) := by decide +kernel
theorem dX9_valuesIn_45 : decode cX9_valuesIn 45 = .ok (.ireturn, 1) := by decide +kernel
theorem dX9_valuesAtOwners_0 : decode cX9_valuesAtOwners 0 = .ok (.iconst 0, 1) := by decide +kernel
theorem dX9_valuesAtOwners_1 : decode cX9_valuesAtOwners 1 = .ok (.istore_n 1, 1) := by decide +kernel
theorem dX9_valuesAtOwners_2 : decode cX9_valuesAtOwners 2 = .ok (.iconst 0, 1) := by decide +kernel
theorem dX9_valuesAtOwners_3 : decode cX9_valuesAtOwners 3 = .ok (.istore_n 2, 1) := by decide +kernel
theorem dX9_valuesAtOwners_4 : decode cX9_valuesAtOwners 4 = .ok (.iload_n 2, 1) := by decide +kernel
theorem dX9_valuesAtOwners_5 : decode cX9_valuesAtOwners 5 = .ok (.aload_n 0, 1) := by decide +kernel
theorem dX9_valuesAtOwners_6 : decode cX9_valuesAtOwners 6 = .ok (.getfield 21, 3) := by decide +kernel
theorem dX9_valuesAtOwners_9 : decode cX9_valuesAtOwners 9 = .ok (.getfield 39, 3) := by decide +kernel
theorem dX9_valuesAtOwners_12 : decode cX9_valuesAtOwners 12 = .ok (.if_icmp .ge 42, 3) := by decide +kernel
theorem dX9_valuesAtOwners_15 : decode cX9_valuesAtOwners 15 = .ok (.iload_n 1, 1) := by decide +kernel
theorem dX9_valuesAtOwners_16 : decode cX9_valuesAtOwners 16 = .ok (.aload_n 0, 1) := by decide +kernel
theorem dX9_valuesAtOwners_17 : decode cX9_valuesAtOwners 17 = .ok (.aload_n 0, 1) := by decide +kernel
theorem dX9_valuesAtOwners_18 : decode cX9_valuesAtOwners 18 = .ok (.getfield 21, 3) := by decide +kernel
theorem dX9_valuesAtOwners_21 : decode cX9_valuesAtOwners 21 = .ok (.getfield 79, 3) := by decide +kernel
theorem dX9_valuesAtOwners_24 : decode cX9_valuesAtOwners 24 = .ok (.iload_n 2, 1) := by decide +kernel
theorem dX9_valuesAtOwners_25 : decode cX9_valuesAtOwners 25 = .ok (.iaload, 1) := by decide +kernel
theorem dX9_valuesAtOwners_26 : decode cX9_valuesAtOwners 26 = .ok (.aload_n 0, 1) := by decide +kernel
theorem dX9_valuesAtOwners_27 : decode cX9_valuesAtOwners 27 = .ok (.getfield 21, 3) := by decide +kernel
theorem dX9_valuesAtOwners_30 : decode cX9_valuesAtOwners 30 = .ok (.getfield 82, 3) := by decide +kernel
theorem dX9_valuesAtOwners_33 : decode cX9_valuesAtOwners 33 = .ok (.iload_n 2, 1) := by decide +kernel
theorem dX9_valuesAtOwners_34 : decode cX9_valuesAtOwners 34 = .ok (.iaload, 1) := by decide +kernel
theorem dX9_valuesAtOwners_35 : decode cX9_valuesAtOwners 35 = .ok (.aload_n 0, 1) := by decide +kernel
theorem dX9_valuesAtOwners_36 : decode cX9_valuesAtOwners 36 = .ok (.getfield 21, 3) := by decide +kernel
theorem dX9_valuesAtOwners_39 : decode cX9_valuesAtOwners 39 = .ok (.iload_n 2, 1) := by decide +kernel
theorem dX9_valuesAtOwners_40 : decode cX9_valuesAtOwners 40 = .ok (.invokevirtual 85, 3) := by decide +kernel
theorem dX9_valuesAtOwners_43 : decode cX9_valuesAtOwners 43 = .ok (.invokevirtual 89, 3) := by decide +kernel
theorem dX9_valuesAtOwners_46 : decode cX9_valuesAtOwners 46 = .ok (.iadd, 1) := by decide +kernel
theorem dX9_valuesAtOwners_47 : decode cX9_valuesAtOwners 47 = .ok (.istore_n 1, 1) := by decide +kernel
theorem dX9_valuesAtOwners_48 : decode cX9_valuesAtOwners 48 = .ok (.iinc 2 1, 3) := by decide +kernel
theorem dX9_valuesAtOwners_51 : decode cX9_valuesAtOwners 51 = .ok (.goto (-47), 3) := by decide +kernel
theorem dX9_valuesAtOwners_54 : decode cX9_valuesAtOwners 54 = .ok (.iload_n 1, 1) := by decide +kernel
theorem dX9_valuesAtOwners_55 : decode cX9_valuesAtOwners 55 = .ok (.ireturn, 1) := by decide +kernel
theorem dX9_isSound_0 : decode cX9_isSound 0 = .ok (.iconst 0, 1) := by decide +kernel
theorem dX9_isSound_1 : decode cX9_isSound 1 = .ok (.istore_n 1, 1) := by decide +kernel
theorem dX9_isSound_2 : decode cX9_isSound 2 = .ok (.iload_n 1, 1) := by decide +kernel
theorem dX9_isSound_3 : decode cX9_isSound 3 = .ok (.aload_n 0, 1) := by decide +kernel
theorem dX9_isSound_4 : decode cX9_isSound 4 = .ok (.getfield 21, 3) := by decide +kernel
theorem dX9_isSound_7 : decode cX9_isSound 7 = .ok (.getfield 39, 3) := by decide +kernel
theorem dX9_isSound_10 : decode cX9_isSound 10 = .ok (.if_icmp .ge 120, 3) := by decide +kernel
theorem dX9_isSound_13 : decode cX9_isSound 13 = .ok (.aload_n 0, 1) := by decide +kernel
theorem dX9_isSound_14 : decode cX9_isSound 14 = .ok (.aload_n 0, 1) := by decide +kernel
theorem dX9_isSound_15 : decode cX9_isSound 15 = .ok (.getfield 21, 3) := by decide +kernel
theorem dX9_isSound_18 : decode cX9_isSound 18 = .ok (.getfield 82, 3) := by decide +kernel
theorem dX9_isSound_21 : decode cX9_isSound 21 = .ok (.iload_n 1, 1) := by decide +kernel
theorem dX9_isSound_22 : decode cX9_isSound 22 = .ok (.iaload, 1) := by decide +kernel
theorem dX9_isSound_23 : decode cX9_isSound 23 = .ok (.invokevirtual 93, 3) := by decide +kernel
theorem dX9_isSound_26 : decode cX9_isSound 26 = .ok (.istore_n 2, 1) := by decide +kernel
theorem dX9_isSound_27 : decode cX9_isSound 27 = .ok (.iconst 0, 1) := by decide +kernel
theorem dX9_isSound_28 : decode cX9_isSound 28 = .ok (.istore_n 3, 1) := by decide +kernel
theorem dX9_isSound_29 : decode cX9_isSound 29 = .ok (.iload_n 3, 1) := by decide +kernel
theorem dX9_isSound_30 : decode cX9_isSound 30 = .ok (.bipush 6, 2) := by decide +kernel
theorem dX9_isSound_32 : decode cX9_isSound 32 = .ok (.if_icmp .ge 92, 3) := by decide +kernel
theorem dX9_isSound_35 : decode cX9_isSound 35 = .ok (.iload_n 3, 1) := by decide +kernel
theorem dX9_isSound_36 : decode cX9_isSound 36 = .ok (.aload_n 0, 1) := by decide +kernel
theorem dX9_isSound_37 : decode cX9_isSound 37 = .ok (.getfield 21, 3) := by decide +kernel
theorem dX9_isSound_40 : decode cX9_isSound 40 = .ok (.getfield 79, 3) := by decide +kernel
theorem dX9_isSound_43 : decode cX9_isSound 43 = .ok (.iload_n 1, 1) := by decide +kernel
theorem dX9_isSound_44 : decode cX9_isSound 44 = .ok (.iaload, 1) := by decide +kernel
theorem dX9_isSound_45 : decode cX9_isSound 45 = .ok (.if_icmp .eq 34, 3) := by decide +kernel
theorem dX9_isSound_48 : decode cX9_isSound 48 = .ok (.iload_n 2, 1) := by decide +kernel
theorem dX9_isSound_49 : decode cX9_isSound 49 = .ok (.iconst (-1), 1) := by decide +kernel
theorem dX9_isSound_50 : decode cX9_isSound 50 = .ok (.if_icmp .eq 33, 3) := by decide +kernel
theorem dX9_isSound_53 : decode cX9_isSound 53 = .ok (.iload_n 3, 1) := by decide +kernel
theorem dX9_isSound_54 : decode cX9_isSound 54 = .ok (.aload_n 0, 1) := by decide +kernel
theorem dX9_isSound_55 : decode cX9_isSound 55 = .ok (.getfield 31, 3) := by decide +kernel
theorem dX9_isSound_58 : decode cX9_isSound 58 = .ok (.iload_n 2, 1) := by decide +kernel
theorem dX9_isSound_59 : decode cX9_isSound 59 = .ok (.aaload, 1) := by decide +kernel
theorem dX9_isSound_60 : decode cX9_isSound 60 = .ok (.getfield 96, 3) := by decide +kernel
theorem dX9_isSound_63 : decode cX9_isSound 63 = .ok (.if_icmp .eq 16, 3) := by decide +kernel
theorem dX9_isSound_66 : decode cX9_isSound 66 = .ok (.iload_n 3, 1) := by decide +kernel
theorem dX9_isSound_67 : decode cX9_isSound 67 = .ok (.aload_n 0, 1) := by decide +kernel
theorem dX9_isSound_68 : decode cX9_isSound 68 = .ok (.getfield 31, 3) := by decide +kernel
theorem dX9_isSound_71 : decode cX9_isSound 71 = .ok (.iload_n 2, 1) := by decide +kernel
theorem dX9_isSound_72 : decode cX9_isSound 72 = .ok (.aaload, 1) := by decide +kernel
theorem dX9_isSound_73 : decode cX9_isSound 73 = .ok (.getfield 99, 3) := by decide +kernel
theorem dX9_isSound_76 : decode cX9_isSound 76 = .ok (.if_icmp .ne 7, 3) := by decide +kernel
theorem dX9_isSound_79 : decode cX9_isSound 79 = .ok (.iconst 1, 1) := by decide +kernel
theorem dX9_isSound_80 : decode cX9_isSound 80 = .ok (.goto 4, 3) := by decide +kernel
theorem dX9_isSound_83 : decode cX9_isSound 83 = .ok (.iconst 0, 1) := by decide +kernel
theorem dX9_isSound_84 : decode cX9_isSound 84 = .ok (.istore 4, 2) := by decide +kernel
theorem dX9_isSound_86 : decode cX9_isSound 86 = .ok (.iload 4, 2) := by decide +kernel
theorem dX9_isSound_88 : decode cX9_isSound 88 = .ok (.ifCond .ne 30, 3) := by decide +kernel
theorem dX9_isSound_91 : decode cX9_isSound 91 = .ok (.aload_n 0, 1) := by decide +kernel
theorem dX9_isSound_92 : decode cX9_isSound 92 = .ok (.iload_n 3, 1) := by decide +kernel
theorem dX9_isSound_93 : decode cX9_isSound 93 = .ok (.aload_n 0, 1) := by decide +kernel
theorem dX9_isSound_94 : decode cX9_isSound 94 = .ok (.getfield 21, 3) := by decide +kernel
theorem dX9_isSound_97 : decode cX9_isSound 97 = .ok (.getfield 82, 3) := by decide +kernel
theorem dX9_isSound_100 : decode cX9_isSound 100 = .ok (.iload_n 1, 1) := by decide +kernel
theorem dX9_isSound_101 : decode cX9_isSound 101 = .ok (.iaload, 1) := by decide +kernel
theorem dX9_isSound_102 : decode cX9_isSound 102 = .ok (.aload_n 0, 1) := by decide +kernel
theorem dX9_isSound_103 : decode cX9_isSound 103 = .ok (.getfield 21, 3) := by decide +kernel
theorem dX9_isSound_106 : decode cX9_isSound 106 = .ok (.iload_n 1, 1) := by decide +kernel
theorem dX9_isSound_107 : decode cX9_isSound 107 = .ok (.invokevirtual 85, 3) := by decide +kernel
theorem dX9_isSound_110 : decode cX9_isSound 110 = .ok (.invokevirtual 89, 3) := by decide +kernel
theorem dX9_isSound_113 : decode cX9_isSound 113 = .ok (.ifCond .le 5, 3) := by decide +kernel
theorem dX9_isSound_116 : decode cX9_isSound 116 = .ok (.iconst 0, 1) := by decide +kernel
theorem dX9_isSound_117 : decode cX9_isSound 117 = .ok (.ireturn, 1) := by decide +kernel
theorem dX9_isSound_118 : decode cX9_isSound 118 = .ok (.iinc 3 1, 3) := by decide +kernel
theorem dX9_isSound_121 : decode cX9_isSound 121 = .ok (.goto (-92), 3) := by decide +kernel
theorem dX9_isSound_124 : decode cX9_isSound 124 = .ok (.iinc 1 1, 3) := by decide +kernel
theorem dX9_isSound_127 : decode cX9_isSound 127 = .ok (.goto (-125), 3) := by decide +kernel
theorem dX9_isSound_130 : decode cX9_isSound 130 = .ok (.iconst 1, 1) := by decide +kernel
theorem dX9_isSound_131 : decode cX9_isSound 131 = .ok (.ireturn, 1) := by decide +kernel
theorem dX9_hasMove_0 : decode cX9_hasMove 0 = .ok (.iload_n 1, 1) := by decide +kernel
theorem dX9_hasMove_1 : decode cX9_hasMove 1 = .ok (.ifCond .lt 15, 3) := by decide +kernel
theorem dX9_hasMove_4 : decode cX9_hasMove 4 = .ok (.iload_n 1, 1) := by decide +kernel
theorem dX9_hasMove_5 : decode cX9_hasMove 5 = .ok (.aload_n 0, 1) := by decide +kernel
theorem dX9_hasMove_6 : decode cX9_hasMove 6 = .ok (.getfield 63, 3) := by decide +kernel
theorem dX9_hasMove_9 : decode cX9_hasMove 9 = .ok (.if_icmp .ge 7, 3) := by decide +kernel
theorem dX9_hasMove_12 : decode cX9_hasMove 12 = .ok (.iconst 1, 1) := by decide +kernel
theorem dX9_hasMove_13 : decode cX9_hasMove 13 = .ok (.goto 4, 3) := by decide +kernel
theorem dX9_hasMove_16 : decode cX9_hasMove 16 = .ok (.iconst 0, 1) := by decide +kernel
theorem dX9_hasMove_17 : decode cX9_hasMove 17 = .ok (.ireturn, 1) := by decide +kernel
theorem dX9_moveAt_0 : decode cX9_moveAt 0 = .ok (.iconst 0, 1) := by decide +kernel
theorem dX9_moveAt_1 : decode cX9_moveAt 1 = .ok (.istore_n 2, 1) := by decide +kernel
theorem dX9_moveAt_2 : decode cX9_moveAt 2 = .ok (.iload_n 2, 1) := by decide +kernel
theorem dX9_moveAt_3 : decode cX9_moveAt 3 = .ok (.aload_n 0, 1) := by decide +kernel
theorem dX9_moveAt_4 : decode cX9_moveAt 4 = .ok (.getfield 63, 3) := by decide +kernel
theorem dX9_moveAt_7 : decode cX9_moveAt 7 = .ok (.if_icmp .ge 36, 3) := by decide +kernel
theorem dX9_moveAt_10 : decode cX9_moveAt 10 = .ok (.aload_n 0, 1) := by decide +kernel
theorem dX9_moveAt_11 : decode cX9_moveAt 11 = .ok (.getfield 31, 3) := by decide +kernel
theorem dX9_moveAt_14 : decode cX9_moveAt 14 = .ok (.iload_n 2, 1) := by decide +kernel
theorem dX9_moveAt_15 : decode cX9_moveAt 15 = .ok (.aaload, 1) := by decide +kernel
theorem dX9_moveAt_16 : decode cX9_moveAt 16 = .ok (.getfield 102, 3) := by decide +kernel
theorem dX9_moveAt_19 : decode cX9_moveAt 19 = .ok (.iload_n 1, 1) := by decide +kernel
theorem dX9_moveAt_20 : decode cX9_moveAt 20 = .ok (.if_icmp .ne 17, 3) := by decide +kernel
theorem dX9_moveAt_23 : decode cX9_moveAt 23 = .ok (.aload_n 0, 1) := by decide +kernel
theorem dX9_moveAt_24 : decode cX9_moveAt 24 = .ok (.getfield 31, 3) := by decide +kernel
theorem dX9_moveAt_27 : decode cX9_moveAt 27 = .ok (.iload_n 2, 1) := by decide +kernel
theorem dX9_moveAt_28 : decode cX9_moveAt 28 = .ok (.aaload, 1) := by decide +kernel
theorem dX9_moveAt_29 : decode cX9_moveAt 29 = .ok (.invokevirtual 105, 3) := by decide +kernel
theorem dX9_moveAt_32 : decode cX9_moveAt 32 = .ok (.ifCond .eq 5, 3) := by decide +kernel
theorem dX9_moveAt_35 : decode cX9_moveAt 35 = .ok (.iload_n 2, 1) := by decide +kernel
theorem dX9_moveAt_36 : decode cX9_moveAt 36 = .ok (.ireturn, 1) := by decide +kernel
theorem dX9_moveAt_37 : decode cX9_moveAt 37 = .ok (.iinc 2 1, 3) := by decide +kernel
theorem dX9_moveAt_40 : decode cX9_moveAt 40 = .ok (.goto (-38), 3) := by decide +kernel
theorem dX9_moveAt_43 : decode cX9_moveAt 43 = .ok (.iconst (-1), 1) := by decide +kernel
theorem dX9_moveAt_44 : decode cX9_moveAt 44 = .ok (.ireturn, 1) := by decide +kernel
theorem dX9_isFrozen_0 : decode cX9_isFrozen 0 = .ok (.aload_n 0, 1) := by decide +kernel
theorem dX9_isFrozen_1 : decode cX9_isFrozen 1 = .ok (.iload_n 1, 1) := by decide +kernel
theorem dX9_isFrozen_2 : decode cX9_isFrozen 2 = .ok (.invokevirtual 93, 3) := by decide +kernel
theorem dX9_isFrozen_5 : decode cX9_isFrozen 5 = .ok (.istore_n 2, 1) := by decide +kernel
theorem dX9_isFrozen_6 : decode cX9_isFrozen 6 = .ok (.iload_n 2, 1) := by decide +kernel
theorem dX9_isFrozen_7 : decode cX9_isFrozen 7 = .ok (.iconst (-1), 1) := by decide +kernel
theorem dX9_isFrozen_8 : decode cX9_isFrozen 8 = .ok (.if_icmp .eq 20, 3) := by decide +kernel
theorem dX9_isFrozen_11 : decode cX9_isFrozen 11 = .ok (.aload_n 0, 1) := by decide +kernel
theorem dX9_isFrozen_12 : decode cX9_isFrozen 12 = .ok (.getfield 31, 3) := by decide +kernel
theorem dX9_isFrozen_15 : decode cX9_isFrozen 15 = .ok (.iload_n 2, 1) := by decide +kernel
theorem dX9_isFrozen_16 : decode cX9_isFrozen 16 = .ok (.aaload, 1) := by decide +kernel
theorem dX9_isFrozen_17 : decode cX9_isFrozen 17 = .ok (.getfield 109, 3) := by decide +kernel
theorem dX9_isFrozen_20 : decode cX9_isFrozen 20 = .ok (.iconst 3, 1) := by decide +kernel
theorem dX9_isFrozen_21 : decode cX9_isFrozen 21 = .ok (.if_icmp .ne 7, 3) := by decide +kernel
theorem dX9_isFrozen_24 : decode cX9_isFrozen 24 = .ok (.iconst 1, 1) := by decide +kernel
theorem dX9_isFrozen_25 : decode cX9_isFrozen 25 = .ok (.goto 4, 3) := by decide +kernel
theorem dX9_isFrozen_28 : decode cX9_isFrozen 28 = .ok (.iconst 0, 1) := by decide +kernel
theorem dX9_isFrozen_29 : decode cX9_isFrozen 29 = .ok (.ireturn, 1) := by decide +kernel
theorem dX9_spansFrozen_0 : decode cX9_spansFrozen 0 = .ok (.iconst 0, 1) := by decide +kernel
theorem dX9_spansFrozen_1 : decode cX9_spansFrozen 1 = .ok (.istore_n 1, 1) := by decide +kernel
theorem dX9_spansFrozen_2 : decode cX9_spansFrozen 2 = .ok (.iconst 0, 1) := by decide +kernel
theorem dX9_spansFrozen_3 : decode cX9_spansFrozen 3 = .ok (.istore_n 2, 1) := by decide +kernel
theorem dX9_spansFrozen_4 : decode cX9_spansFrozen 4 = .ok (.iload_n 2, 1) := by decide +kernel
theorem dX9_spansFrozen_5 : decode cX9_spansFrozen 5 = .ok (.aload_n 0, 1) := by decide +kernel
theorem dX9_spansFrozen_6 : decode cX9_spansFrozen 6 = .ok (.getfield 21, 3) := by decide +kernel
theorem dX9_spansFrozen_9 : decode cX9_spansFrozen 9 = .ok (.getfield 39, 3) := by decide +kernel
theorem dX9_spansFrozen_12 : decode cX9_spansFrozen 12 = .ok (.if_icmp .ge 28, 3) := by decide +kernel
theorem dX9_spansFrozen_15 : decode cX9_spansFrozen 15 = .ok (.aload_n 0, 1) := by decide +kernel
theorem dX9_spansFrozen_16 : decode cX9_spansFrozen 16 = .ok (.aload_n 0, 1) := by decide +kernel
theorem dX9_spansFrozen_17 : decode cX9_spansFrozen 17 = .ok (.getfield 21, 3) := by decide +kernel
theorem dX9_spansFrozen_20 : decode cX9_spansFrozen 20 = .ok (.getfield 82, 3) := by decide +kernel
theorem dX9_spansFrozen_23 : decode cX9_spansFrozen 23 = .ok (.iload_n 2, 1) := by decide +kernel
theorem dX9_spansFrozen_24 : decode cX9_spansFrozen 24 = .ok (.iaload, 1) := by decide +kernel
theorem dX9_spansFrozen_25 : decode cX9_spansFrozen 25 = .ok (.invokevirtual 112, 3) := by decide +kernel
theorem dX9_spansFrozen_28 : decode cX9_spansFrozen 28 = .ok (.ifCond .eq 6, 3) := by decide +kernel
theorem dX9_spansFrozen_31 : decode cX9_spansFrozen 31 = .ok (.iinc 1 1, 3) := by decide +kernel
theorem dX9_spansFrozen_34 : decode cX9_spansFrozen 34 = .ok (.iinc 2 1, 3) := by decide +kernel
theorem dX9_spansFrozen_37 : decode cX9_spansFrozen 37 = .ok (.goto (-33), 3) := by decide +kernel
theorem dX9_spansFrozen_40 : decode cX9_spansFrozen 40 = .ok (.iload_n 1, 1) := by decide +kernel
theorem dX9_spansFrozen_41 : decode cX9_spansFrozen 41 = .ok (.ireturn, 1) := by decide +kernel
theorem dX9_canStep_0 : decode cX9_canStep 0 = .ok (.aload_n 0, 1) := by decide +kernel
theorem dX9_canStep_1 : decode cX9_canStep 1 = .ok (.iload_n 1, 1) := by decide +kernel
theorem dX9_canStep_2 : decode cX9_canStep 2 = .ok (.invokevirtual 115, 3) := by decide +kernel
theorem dX9_canStep_5 : decode cX9_canStep 5 = .ok (.ifCond .eq 44, 3) := by decide +kernel
theorem dX9_canStep_8 : decode cX9_canStep 8 = .ok (.aload_n 0, 1) := by decide +kernel
theorem dX9_canStep_9 : decode cX9_canStep 9 = .ok (.getfield 31, 3) := by decide +kernel
theorem dX9_canStep_12 : decode cX9_canStep 12 = .ok (.iload_n 1, 1) := by decide +kernel
theorem dX9_canStep_13 : decode cX9_canStep 13 = .ok (.aaload, 1) := by decide +kernel
theorem dX9_canStep_14 : decode cX9_canStep 14 = .ok (.invokevirtual 105, 3) := by decide +kernel
theorem dX9_canStep_17 : decode cX9_canStep 17 = .ok (.ifCond .eq 32, 3) := by decide +kernel
theorem dX9_canStep_20 : decode cX9_canStep 20 = .ok (.aload_n 0, 1) := by decide +kernel
theorem dX9_canStep_21 : decode cX9_canStep 21 = .ok (.getfield 31, 3) := by decide +kernel
theorem dX9_canStep_24 : decode cX9_canStep 24 = .ok (.iload_n 1, 1) := by decide +kernel
theorem dX9_canStep_25 : decode cX9_canStep 25 = .ok (.aaload, 1) := by decide +kernel
theorem dX9_canStep_26 : decode cX9_canStep 26 = .ok (.getfield 118, 3) := by decide +kernel
theorem dX9_canStep_29 : decode cX9_canStep 29 = .ok (.ifCond .ne 20, 3) := by decide +kernel
theorem dX9_canStep_32 : decode cX9_canStep 32 = .ok (.aload_n 0, 1) := by decide +kernel
theorem dX9_canStep_33 : decode cX9_canStep 33 = .ok (.aload_n 0, 1) := by decide +kernel
theorem dX9_canStep_34 : decode cX9_canStep 34 = .ok (.getfield 31, 3) := by decide +kernel
theorem dX9_canStep_37 : decode cX9_canStep 37 = .ok (.iload_n 1, 1) := by decide +kernel
theorem dX9_canStep_38 : decode cX9_canStep 38 = .ok (.aaload, 1) := by decide +kernel
theorem dX9_canStep_39 : decode cX9_canStep 39 = .ok (.invokevirtual 122, 3) := by decide +kernel
theorem dX9_canStep_42 : decode cX9_canStep 42 = .ok (.ifCond .eq 7, 3) := by decide +kernel
theorem dX9_canStep_45 : decode cX9_canStep 45 = .ok (.iconst 1, 1) := by decide +kernel
theorem dX9_canStep_46 : decode cX9_canStep 46 = .ok (.goto 4, 3) := by decide +kernel
theorem dX9_canStep_49 : decode cX9_canStep 49 = .ok (.iconst 0, 1) := by decide +kernel
theorem dX9_canStep_50 : decode cX9_canStep 50 = .ok (.ireturn, 1) := by decide +kernel
theorem dX9_bothUp_0 : decode cX9_bothUp 0 = .ok (.aload_n 0, 1) := by decide +kernel
theorem dX9_bothUp_1 : decode cX9_bothUp 1 = .ok (.aload_n 1, 1) := by decide +kernel
theorem dX9_bothUp_2 : decode cX9_bothUp 2 = .ok (.getfield 96, 3) := by decide +kernel
theorem dX9_bothUp_5 : decode cX9_bothUp 5 = .ok (.invokevirtual 73, 3) := by decide +kernel
theorem dX9_bothUp_8 : decode cX9_bothUp 8 = .ok (.ifCond .eq 18, 3) := by decide +kernel
theorem dX9_bothUp_11 : decode cX9_bothUp 11 = .ok (.aload_n 0, 1) := by decide +kernel
theorem dX9_bothUp_12 : decode cX9_bothUp 12 = .ok (.aload_n 1, 1) := by decide +kernel
theorem dX9_bothUp_13 : decode cX9_bothUp 13 = .ok (.getfield 99, 3) := by decide +kernel
theorem dX9_bothUp_16 : decode cX9_bothUp 16 = .ok (.invokevirtual 73, 3) := by decide +kernel
theorem dX9_bothUp_19 : decode cX9_bothUp 19 = .ok (.ifCond .eq 7, 3) := by decide +kernel
theorem dX9_bothUp_22 : decode cX9_bothUp 22 = .ok (.iconst 1, 1) := by decide +kernel
theorem dX9_bothUp_23 : decode cX9_bothUp 23 = .ok (.goto 4, 3) := by decide +kernel
theorem dX9_bothUp_26 : decode cX9_bothUp 26 = .ok (.iconst 0, 1) := by decide +kernel
theorem dX9_bothUp_27 : decode cX9_bothUp 27 = .ok (.ireturn, 1) := by decide +kernel
theorem dX9_movesFrom_0 : decode cX9_movesFrom 0 = .ok (.iconst 0, 1) := by decide +kernel
theorem dX9_movesFrom_1 : decode cX9_movesFrom 1 = .ok (.istore_n 2, 1) := by decide +kernel
theorem dX9_movesFrom_2 : decode cX9_movesFrom 2 = .ok (.iconst 0, 1) := by decide +kernel
theorem dX9_movesFrom_3 : decode cX9_movesFrom 3 = .ok (.istore_n 3, 1) := by decide +kernel
theorem dX9_movesFrom_4 : decode cX9_movesFrom 4 = .ok (.iload_n 3, 1) := by decide +kernel
theorem dX9_movesFrom_5 : decode cX9_movesFrom 5 = .ok (.aload_n 0, 1) := by decide +kernel
theorem dX9_movesFrom_6 : decode cX9_movesFrom 6 = .ok (.getfield 63, 3) := by decide +kernel
theorem dX9_movesFrom_9 : decode cX9_movesFrom 9 = .ok (.if_icmp .ge 37, 3) := by decide +kernel
theorem dX9_movesFrom_12 : decode cX9_movesFrom 12 = .ok (.aload_n 0, 1) := by decide +kernel
theorem dX9_movesFrom_13 : decode cX9_movesFrom 13 = .ok (.getfield 31, 3) := by decide +kernel
theorem dX9_movesFrom_16 : decode cX9_movesFrom 16 = .ok (.iload_n 3, 1) := by decide +kernel
theorem dX9_movesFrom_17 : decode cX9_movesFrom 17 = .ok (.aaload, 1) := by decide +kernel
theorem dX9_movesFrom_18 : decode cX9_movesFrom 18 = .ok (.invokevirtual 105, 3) := by decide +kernel
theorem dX9_movesFrom_21 : decode cX9_movesFrom 21 = .ok (.ifCond .eq 19, 3) := by decide +kernel
theorem dX9_movesFrom_24 : decode cX9_movesFrom 24 = .ok (.aload_n 0, 1) := by decide +kernel
theorem dX9_movesFrom_25 : decode cX9_movesFrom 25 = .ok (.getfield 31, 3) := by decide +kernel
theorem dX9_movesFrom_28 : decode cX9_movesFrom 28 = .ok (.iload_n 3, 1) := by decide +kernel
theorem dX9_movesFrom_29 : decode cX9_movesFrom 29 = .ok (.aaload, 1) := by decide +kernel
theorem dX9_movesFrom_30 : decode cX9_movesFrom 30 = .ok (.getfield 96, 3) := by decide +kernel
theorem dX9_movesFrom_33 : decode cX9_movesFrom 33 = .ok (.iload_n 1, 1) := by decide +kernel
theorem dX9_movesFrom_34 : decode cX9_movesFrom 34 = .ok (.if_icmp .ne 6, 3) := by decide +kernel
theorem dX9_movesFrom_37 : decode cX9_movesFrom 37 = .ok (.iinc 2 1, 3) := by decide +kernel
theorem dX9_movesFrom_40 : decode cX9_movesFrom 40 = .ok (.iinc 3 1, 3) := by decide +kernel
theorem dX9_movesFrom_43 : decode cX9_movesFrom 43 = .ok (.goto (-39), 3) := by decide +kernel
theorem dX9_movesFrom_46 : decode cX9_movesFrom 46 = .ok (.iload_n 2, 1) := by decide +kernel
theorem dX9_movesFrom_47 : decode cX9_movesFrom 47 = .ok (.ireturn, 1) := by decide +kernel
theorem dX9_movesTo_0 : decode cX9_movesTo 0 = .ok (.iconst 0, 1) := by decide +kernel
theorem dX9_movesTo_1 : decode cX9_movesTo 1 = .ok (.istore_n 2, 1) := by decide +kernel
theorem dX9_movesTo_2 : decode cX9_movesTo 2 = .ok (.iconst 0, 1) := by decide +kernel
theorem dX9_movesTo_3 : decode cX9_movesTo 3 = .ok (.istore_n 3, 1) := by decide +kernel
theorem dX9_movesTo_4 : decode cX9_movesTo 4 = .ok (.iload_n 3, 1) := by decide +kernel
theorem dX9_movesTo_5 : decode cX9_movesTo 5 = .ok (.aload_n 0, 1) := by decide +kernel
theorem dX9_movesTo_6 : decode cX9_movesTo 6 = .ok (.getfield 63, 3) := by decide +kernel
theorem dX9_movesTo_9 : decode cX9_movesTo 9 = .ok (.if_icmp .ge 37, 3) := by decide +kernel
theorem dX9_movesTo_12 : decode cX9_movesTo 12 = .ok (.aload_n 0, 1) := by decide +kernel
theorem dX9_movesTo_13 : decode cX9_movesTo 13 = .ok (.getfield 31, 3) := by decide +kernel
theorem dX9_movesTo_16 : decode cX9_movesTo 16 = .ok (.iload_n 3, 1) := by decide +kernel
theorem dX9_movesTo_17 : decode cX9_movesTo 17 = .ok (.aaload, 1) := by decide +kernel
theorem dX9_movesTo_18 : decode cX9_movesTo 18 = .ok (.invokevirtual 105, 3) := by decide +kernel
theorem dX9_movesTo_21 : decode cX9_movesTo 21 = .ok (.ifCond .eq 19, 3) := by decide +kernel
theorem dX9_movesTo_24 : decode cX9_movesTo 24 = .ok (.aload_n 0, 1) := by decide +kernel
theorem dX9_movesTo_25 : decode cX9_movesTo 25 = .ok (.getfield 31, 3) := by decide +kernel
theorem dX9_movesTo_28 : decode cX9_movesTo 28 = .ok (.iload_n 3, 1) := by decide +kernel
theorem dX9_movesTo_29 : decode cX9_movesTo 29 = .ok (.aaload, 1) := by decide +kernel
theorem dX9_movesTo_30 : decode cX9_movesTo 30 = .ok (.getfield 99, 3) := by decide +kernel
theorem dX9_movesTo_33 : decode cX9_movesTo 33 = .ok (.iload_n 1, 1) := by decide +kernel
theorem dX9_movesTo_34 : decode cX9_movesTo 34 = .ok (.if_icmp .ne 6, 3) := by decide +kernel
theorem dX9_movesTo_37 : decode cX9_movesTo 37 = .ok (.iinc 2 1, 3) := by decide +kernel
theorem dX9_movesTo_40 : decode cX9_movesTo 40 = .ok (.iinc 3 1, 3) := by decide +kernel
theorem dX9_movesTo_43 : decode cX9_movesTo 43 = .ok (.goto (-39), 3) := by decide +kernel
theorem dX9_movesTo_46 : decode cX9_movesTo 46 = .ok (.iload_n 2, 1) := by decide +kernel
theorem dX9_movesTo_47 : decode cX9_movesTo 47 = .ok (.ireturn, 1) := by decide +kernel
theorem dX9_movesGoingOn_0 : decode cX9_movesGoingOn 0 = .ok (.iconst 0, 1) := by decide +kernel
theorem dX9_movesGoingOn_1 : decode cX9_movesGoingOn 1 = .ok (.istore_n 1, 1) := by decide +kernel
theorem dX9_movesGoingOn_2 : decode cX9_movesGoingOn 2 = .ok (.iconst 0, 1) := by decide +kernel
theorem dX9_movesGoingOn_3 : decode cX9_movesGoingOn 3 = .ok (.istore_n 2, 1) := by decide +kernel
theorem dX9_movesGoingOn_4 : decode cX9_movesGoingOn 4 = .ok (.iload_n 2, 1) := by decide +kernel
theorem dX9_movesGoingOn_5 : decode cX9_movesGoingOn 5 = .ok (.aload_n 0, 1) := by decide +kernel
theorem dX9_movesGoingOn_6 : decode cX9_movesGoingOn 6 = .ok (.getfield 63, 3) := by decide +kernel
theorem dX9_movesGoingOn_9 : decode cX9_movesGoingOn 9 = .ok (.if_icmp .ge 24, 3) := by decide +kernel
theorem dX9_movesGoingOn_12 : decode cX9_movesGoingOn 12 = .ok (.aload_n 0, 1) := by decide +kernel
theorem dX9_movesGoingOn_13 : decode cX9_movesGoingOn 13 = .ok (.getfield 31, 3) := by decide +kernel
theorem dX9_movesGoingOn_16 : decode cX9_movesGoingOn 16 = .ok (.iload_n 2, 1) := by decide +kernel
theorem dX9_movesGoingOn_17 : decode cX9_movesGoingOn 17 = .ok (.aaload, 1) := by decide +kernel
theorem dX9_movesGoingOn_18 : decode cX9_movesGoingOn 18 = .ok (.invokevirtual 105, 3) := by decide +kernel
theorem dX9_movesGoingOn_21 : decode cX9_movesGoingOn 21 = .ok (.ifCond .eq 6, 3) := by decide +kernel
theorem dX9_movesGoingOn_24 : decode cX9_movesGoingOn 24 = .ok (.iinc 1 1, 3) := by decide +kernel
theorem dX9_movesGoingOn_27 : decode cX9_movesGoingOn 27 = .ok (.iinc 2 1, 3) := by decide +kernel
theorem dX9_movesGoingOn_30 : decode cX9_movesGoingOn 30 = .ok (.goto (-26), 3) := by decide +kernel
theorem dX9_movesGoingOn_33 : decode cX9_movesGoingOn 33 = .ok (.iload_n 1, 1) := by decide +kernel
theorem dX9_movesGoingOn_34 : decode cX9_movesGoingOn 34 = .ok (.ireturn, 1) := by decide +kernel
theorem dX9_movesBroken_0 : decode cX9_movesBroken 0 = .ok (.iconst 0, 1) := by decide +kernel
theorem dX9_movesBroken_1 : decode cX9_movesBroken 1 = .ok (.istore_n 1, 1) := by decide +kernel
theorem dX9_movesBroken_2 : decode cX9_movesBroken 2 = .ok (.iconst 0, 1) := by decide +kernel
theorem dX9_movesBroken_3 : decode cX9_movesBroken 3 = .ok (.istore_n 2, 1) := by decide +kernel
theorem dX9_movesBroken_4 : decode cX9_movesBroken 4 = .ok (.iload_n 2, 1) := by decide +kernel
theorem dX9_movesBroken_5 : decode cX9_movesBroken 5 = .ok (.aload_n 0, 1) := by decide +kernel
theorem dX9_movesBroken_6 : decode cX9_movesBroken 6 = .ok (.getfield 63, 3) := by decide +kernel
theorem dX9_movesBroken_9 : decode cX9_movesBroken 9 = .ok (.if_icmp .ge 24, 3) := by decide +kernel
theorem dX9_movesBroken_12 : decode cX9_movesBroken 12 = .ok (.aload_n 0, 1) := by decide +kernel
theorem dX9_movesBroken_13 : decode cX9_movesBroken 13 = .ok (.getfield 31, 3) := by decide +kernel
theorem dX9_movesBroken_16 : decode cX9_movesBroken 16 = .ok (.iload_n 2, 1) := by decide +kernel
theorem dX9_movesBroken_17 : decode cX9_movesBroken 17 = .ok (.aaload, 1) := by decide +kernel
theorem dX9_movesBroken_18 : decode cX9_movesBroken 18 = .ok (.getfield 118, 3) := by decide +kernel
theorem dX9_movesBroken_21 : decode cX9_movesBroken 21 = .ok (.ifCond .eq 6, 3) := by decide +kernel
theorem dX9_movesBroken_24 : decode cX9_movesBroken 24 = .ok (.iinc 1 1, 3) := by decide +kernel
theorem dX9_movesBroken_27 : decode cX9_movesBroken 27 = .ok (.iinc 2 1, 3) := by decide +kernel
theorem dX9_movesBroken_30 : decode cX9_movesBroken 30 = .ok (.goto (-26), 3) := by decide +kernel
theorem dX9_movesBroken_33 : decode cX9_movesBroken 33 = .ok (.iload_n 1, 1) := by decide +kernel
theorem dX9_movesBroken_34 : decode cX9_movesBroken 34 = .ok (.ireturn, 1) := by decide +kernel
theorem dX9_tellChunk_0 : decode cX9_tellChunk 0 = .ok (.iload_n 1, 1) := by decide +kernel
theorem dX9_tellChunk_1 : decode cX9_tellChunk 1 = .ok (.iconst 1, 1) := by decide +kernel
theorem dX9_tellChunk_2 : decode cX9_tellChunk 2 = .ok (.if_icmp .lt 9, 3) := by decide +kernel
theorem dX9_tellChunk_5 : decode cX9_tellChunk 5 = .ok (.iload_n 1, 1) := by decide +kernel
theorem dX9_tellChunk_6 : decode cX9_tellChunk 6 = .ok (.bipush 16, 2) := by decide +kernel
theorem dX9_tellChunk_8 : decode cX9_tellChunk 8 = .ok (.if_icmp .le 5, 3) := by decide +kernel
theorem dX9_tellChunk_11 : decode cX9_tellChunk 11 = .ok (.iconst 0, 1) := by decide +kernel
theorem dX9_tellChunk_12 : decode cX9_tellChunk 12 = .ok (.ireturn, 1) := by decide +kernel
theorem dX9_tellChunk_13 : decode cX9_tellChunk 13 = .ok (.aload_n 0, 1) := by decide +kernel
theorem dX9_tellChunk_14 : decode cX9_tellChunk 14 = .ok (.iload_n 1, 1) := by decide +kernel
theorem dX9_tellChunk_15 : decode cX9_tellChunk 15 = .ok (.putfield 50, 3) := by decide +kernel
theorem dX9_tellChunk_18 : decode cX9_tellChunk 18 = .ok (.iconst 1, 1) := by decide +kernel
theorem dX9_tellChunk_19 : decode cX9_tellChunk 19 = .ok (.ireturn, 1) := by decide +kernel
theorem dX9_passedOn_0 : decode cX9_passedOn 0 = .ok (.iconst 0, 1) := by decide +kernel
theorem dX9_passedOn_1 : decode cX9_passedOn 1 = .ok (.istore_n 3, 1) := by decide +kernel
theorem dX9_passedOn_2 : decode cX9_passedOn 2 = .ok (.iconst 0, 1) := by decide +kernel
theorem dX9_passedOn_3 : decode cX9_passedOn 3 = .ok (.istore 4, 2) := by decide +kernel
theorem dX9_passedOn_5 : decode cX9_passedOn 5 = .ok (.iload 4, 2) := by decide +kernel
theorem dX9_passedOn_7 : decode cX9_passedOn 7 = .ok (.aload_n 0, 1) := by decide +kernel
theorem dX9_passedOn_8 : decode cX9_passedOn 8 = .ok (.getfield 63, 3) := by decide +kernel
theorem dX9_passedOn_11 : decode cX9_passedOn 11 = .ok (.if_icmp .ge 55, 3) := by decide +kernel
theorem dX9_passedOn_14 : decode cX9_passedOn 14 = .ok (.aload_n 0, 1) := by decide +kernel
theorem dX9_passedOn_15 : decode cX9_passedOn 15 = .ok (.getfield 31, 3) := by decide +kernel
theorem dX9_passedOn_18 : decode cX9_passedOn 18 = .ok (.iload 4, 2) := by decide +kernel
theorem dX9_passedOn_20 : decode cX9_passedOn 20 = .ok (.aaload, 1) := by decide +kernel
theorem dX9_passedOn_21 : decode cX9_passedOn 21 = .ok (.getfield 126, 3) := by decide +kernel
theorem dX9_passedOn_24 : decode cX9_passedOn 24 = .ok (.ifCond .le 36, 3) := by decide +kernel
theorem dX9_passedOn_27 : decode cX9_passedOn 27 = .ok (.aload_n 0, 1) := by decide +kernel
theorem dX9_passedOn_28 : decode cX9_passedOn 28 = .ok (.getfield 31, 3) := by decide +kernel
theorem dX9_passedOn_31 : decode cX9_passedOn 31 = .ok (.iload 4, 2) := by decide +kernel
theorem dX9_passedOn_33 : decode cX9_passedOn 33 = .ok (.aaload, 1) := by decide +kernel
theorem dX9_passedOn_34 : decode cX9_passedOn 34 = .ok (.iload_n 1, 1) := by decide +kernel
theorem dX9_passedOn_35 : decode cX9_passedOn 35 = .ok (.invokevirtual 127, 3) := by decide +kernel
theorem dX9_passedOn_38 : decode cX9_passedOn 38 = .ok (.ifCond .eq 22, 3) := by decide +kernel
theorem dX9_passedOn_41 : decode cX9_passedOn 41 = .ok (.iload_n 3, 1) := by decide +kernel
theorem dX9_passedOn_42 : decode cX9_passedOn 42 = .ok (.iload_n 2, 1) := by decide +kernel
theorem dX9_passedOn_43 : decode cX9_passedOn 43 = .ok (.if_icmp .ne 14, 3) := by decide +kernel
theorem dX9_passedOn_46 : decode cX9_passedOn 46 = .ok (.aload_n 0, 1) := by decide +kernel
theorem dX9_passedOn_47 : decode cX9_passedOn 47 = .ok (.getfield 31, 3) := by decide +kernel
theorem dX9_passedOn_50 : decode cX9_passedOn 50 = .ok (.iload 4, 2) := by decide +kernel
theorem dX9_passedOn_52 : decode cX9_passedOn 52 = .ok (.aaload, 1) := by decide +kernel
theorem dX9_passedOn_53 : decode cX9_passedOn 53 = .ok (.getfield 126, 3) := by decide +kernel
theorem dX9_passedOn_56 : decode cX9_passedOn 56 = .ok (.ireturn, 1) := by decide +kernel
theorem dX9_passedOn_57 : decode cX9_passedOn 57 = .ok (.iinc 3 1, 3) := by decide +kernel
theorem dX9_passedOn_60 : decode cX9_passedOn 60 = .ok (.iinc 4 1, 3) := by decide +kernel
theorem dX9_passedOn_63 : decode cX9_passedOn 63 = .ok (.goto (-58), 3) := by decide +kernel
theorem dX9_passedOn_66 : decode cX9_passedOn 66 = .ok (.iconst (-1), 1) := by decide +kernel
theorem dX9_passedOn_67 : decode cX9_passedOn 67 = .ok (.ireturn, 1) := by decide +kernel
theorem dX9_ownerAt_0 : decode cX9_ownerAt 0 = .ok (.iconst 0, 1) := by decide +kernel
theorem dX9_ownerAt_1 : decode cX9_ownerAt 1 = .ok (.istore_n 3, 1) := by decide +kernel
theorem dX9_ownerAt_2 : decode cX9_ownerAt 2 = .ok (.iconst 0, 1) := by decide +kernel
theorem dX9_ownerAt_3 : decode cX9_ownerAt 3 = .ok (.istore 4, 2) := by decide +kernel
theorem dX9_ownerAt_5 : decode cX9_ownerAt 5 = .ok (.iload 4, 2) := by decide +kernel
theorem dX9_ownerAt_7 : decode cX9_ownerAt 7 = .ok (.aload_n 0, 1) := by decide +kernel
theorem dX9_ownerAt_8 : decode cX9_ownerAt 8 = .ok (.getfield 63, 3) := by decide +kernel
theorem dX9_ownerAt_11 : decode cX9_ownerAt 11 = .ok (.if_icmp .ge 50, 3) := by decide +kernel
theorem dX9_ownerAt_14 : decode cX9_ownerAt 14 = .ok (.aload_n 0, 1) := by decide +kernel
theorem dX9_ownerAt_15 : decode cX9_ownerAt 15 = .ok (.getfield 31, 3) := by decide +kernel
theorem dX9_ownerAt_18 : decode cX9_ownerAt 18 = .ok (.iload 4, 2) := by decide +kernel
theorem dX9_ownerAt_20 : decode cX9_ownerAt 20 = .ok (.aaload, 1) := by decide +kernel
theorem dX9_ownerAt_21 : decode cX9_ownerAt 21 = .ok (.astore 5, 2) := by decide +kernel
theorem dX9_ownerAt_23 : decode cX9_ownerAt 23 = .ok (.aload 5, 2) := by decide +kernel
theorem dX9_ownerAt_25 : decode cX9_ownerAt 25 = .ok (.getfield 126, 3) := by decide +kernel
theorem dX9_ownerAt_28 : decode cX9_ownerAt 28 = .ok (.ifCond .le 27, 3) := by decide +kernel
theorem dX9_ownerAt_31 : decode cX9_ownerAt 31 = .ok (.aload 5, 2) := by decide +kernel
theorem dX9_ownerAt_33 : decode cX9_ownerAt 33 = .ok (.getfield 126, 3) := by decide +kernel
theorem dX9_ownerAt_36 : decode cX9_ownerAt 36 = .ok (.iload_n 1, 1) := by decide +kernel
theorem dX9_ownerAt_37 : decode cX9_ownerAt 37 = .ok (.if_icmp .gt 18, 3) := by decide +kernel
theorem dX9_ownerAt_40 : decode cX9_ownerAt 40 = .ok (.aload 5, 2) := by decide +kernel
theorem dX9_ownerAt_42 : decode cX9_ownerAt 42 = .ok (.iload_n 2, 1) := by decide +kernel
theorem dX9_ownerAt_43 : decode cX9_ownerAt 43 = .ok (.invokevirtual 127, 3) := by decide +kernel
theorem dX9_ownerAt_46 : decode cX9_ownerAt 46 = .ok (.ifCond .eq 9, 3) := by decide +kernel
theorem dX9_ownerAt_49 : decode cX9_ownerAt 49 = .ok (.aload 5, 2) := by decide +kernel
theorem dX9_ownerAt_51 : decode cX9_ownerAt 51 = .ok (.getfield 99, 3) := by decide +kernel
theorem dX9_ownerAt_54 : decode cX9_ownerAt 54 = .ok (.istore_n 3, 1) := by decide +kernel
theorem dX9_ownerAt_55 : decode cX9_ownerAt 55 = .ok (.iinc 4 1, 3) := by decide +kernel
theorem dX9_ownerAt_58 : decode cX9_ownerAt 58 = .ok (.goto (-53), 3) := by decide +kernel
theorem dX9_ownerAt_61 : decode cX9_ownerAt 61 = .ok (.iload_n 3, 1) := by decide +kernel
theorem dX9_ownerAt_62 : decode cX9_ownerAt 62 = .ok (.ireturn, 1) := by decide +kernel
theorem dX9_halveWeights_0 : decode cX9_halveWeights 0 = .ok (.lconst 0, 1) := by decide +kernel
theorem dX9_halveWeights_1 : decode cX9_halveWeights 1 = .ok (.lstore_n 1, 1) := by decide +kernel
theorem dX9_halveWeights_2 : decode cX9_halveWeights 2 = .ok (.iconst 0, 1) := by decide +kernel
theorem dX9_halveWeights_3 : decode cX9_halveWeights 3 = .ok (.istore_n 3, 1) := by decide +kernel
theorem dX9_halveWeights_4 : decode cX9_halveWeights 4 = .ok (.iload_n 3, 1) := by decide +kernel
theorem dX9_halveWeights_5 : decode cX9_halveWeights 5 = .ok (.sipush 1000, 3) := by decide +kernel
theorem dX9_halveWeights_8 : decode cX9_halveWeights 8 = .ok (.if_icmp .ge 29, 3) := by decide +kernel
theorem dX9_halveWeights_11 : decode cX9_halveWeights 11 = .ok (.aload_n 0, 1) := by decide +kernel
theorem dX9_halveWeights_12 : decode cX9_halveWeights 12 = .ok (.getfield 15, 3) := by decide +kernel
theorem dX9_halveWeights_15 : decode cX9_halveWeights 15 = .ok (.iload_n 3, 1) := by decide +kernel
theorem dX9_halveWeights_16 : decode cX9_halveWeights 16 = .ok (.dup2, 1) := by decide +kernel
theorem dX9_halveWeights_17 : decode cX9_halveWeights 17 = .ok (.iaload, 1) := by decide +kernel
theorem dX9_halveWeights_18 : decode cX9_halveWeights 18 = .ok (.iconst 2, 1) := by decide +kernel
theorem dX9_halveWeights_19 : decode cX9_halveWeights 19 = .ok (.idiv, 1) := by decide +kernel
theorem dX9_halveWeights_20 : decode cX9_halveWeights 20 = .ok (.iastore, 1) := by decide +kernel
theorem dX9_halveWeights_21 : decode cX9_halveWeights 21 = .ok (.lload_n 1, 1) := by decide +kernel
theorem dX9_halveWeights_22 : decode cX9_halveWeights 22 = .ok (.aload_n 0, 1) := by decide +kernel
theorem dX9_halveWeights_23 : decode cX9_halveWeights 23 = .ok (.getfield 15, 3) := by decide +kernel
theorem dX9_halveWeights_26 : decode cX9_halveWeights 26 = .ok (.iload_n 3, 1) := by decide +kernel
theorem dX9_halveWeights_27 : decode cX9_halveWeights 27 = .ok (.iaload, 1) := by decide +kernel
theorem dX9_halveWeights_28 : decode cX9_halveWeights 28 = .ok (.i2l, 1) := by decide +kernel
theorem dX9_halveWeights_29 : decode cX9_halveWeights 29 = .ok (.ladd, 1) := by decide +kernel
theorem dX9_halveWeights_30 : decode cX9_halveWeights 30 = .ok (.lstore_n 1, 1) := by decide +kernel
theorem dX9_halveWeights_31 : decode cX9_halveWeights 31 = .ok (.iinc 3 1, 3) := by decide +kernel
theorem dX9_halveWeights_34 : decode cX9_halveWeights 34 = .ok (.goto (-30), 3) := by decide +kernel
theorem dX9_halveWeights_37 : decode cX9_halveWeights 37 = .ok (.lload_n 1, 1) := by decide +kernel
theorem dX9_halveWeights_38 : decode cX9_halveWeights 38 = .ok (.lreturn, 1) := by decide +kernel
theorem dX9_keysAbove_0 : decode cX9_keysAbove 0 = .ok (.iconst 0, 1) := by decide +kernel
theorem dX9_keysAbove_1 : decode cX9_keysAbove 1 = .ok (.istore_n 2, 1) := by decide +kernel
theorem dX9_keysAbove_2 : decode cX9_keysAbove 2 = .ok (.iconst 0, 1) := by decide +kernel
theorem dX9_keysAbove_3 : decode cX9_keysAbove 3 = .ok (.istore_n 3, 1) := by decide +kernel
theorem dX9_keysAbove_4 : decode cX9_keysAbove 4 = .ok (.iload_n 3, 1) := by decide +kernel
theorem dX9_keysAbove_5 : decode cX9_keysAbove 5 = .ok (.sipush 1000, 3) := by decide +kernel
theorem dX9_keysAbove_8 : decode cX9_keysAbove 8 = .ok (.if_icmp .ge 22, 3) := by decide +kernel
theorem dX9_keysAbove_11 : decode cX9_keysAbove 11 = .ok (.aload_n 0, 1) := by decide +kernel
theorem dX9_keysAbove_12 : decode cX9_keysAbove 12 = .ok (.getfield 15, 3) := by decide +kernel
theorem dX9_keysAbove_15 : decode cX9_keysAbove 15 = .ok (.iload_n 3, 1) := by decide +kernel
theorem dX9_keysAbove_16 : decode cX9_keysAbove 16 = .ok (.iaload, 1) := by decide +kernel
theorem dX9_keysAbove_17 : decode cX9_keysAbove 17 = .ok (.iload_n 1, 1) := by decide +kernel
theorem dX9_keysAbove_18 : decode cX9_keysAbove 18 = .ok (.if_icmp .le 6, 3) := by decide +kernel
theorem dX9_keysAbove_21 : decode cX9_keysAbove 21 = .ok (.iinc 2 1, 3) := by decide +kernel
theorem dX9_keysAbove_24 : decode cX9_keysAbove 24 = .ok (.iinc 3 1, 3) := by decide +kernel
theorem dX9_keysAbove_27 : decode cX9_keysAbove 27 = .ok (.goto (-23), 3) := by decide +kernel
theorem dX9_keysAbove_30 : decode cX9_keysAbove 30 = .ok (.iload_n 2, 1) := by decide +kernel
theorem dX9_keysAbove_31 : decode cX9_keysAbove 31 = .ok (.ireturn, 1) := by decide +kernel
theorem dX9_greatestWeight_0 : decode cX9_greatestWeight 0 = .ok (.iconst 0, 1) := by decide +kernel
theorem dX9_greatestWeight_1 : decode cX9_greatestWeight 1 = .ok (.istore_n 1, 1) := by decide +kernel
theorem dX9_greatestWeight_2 : decode cX9_greatestWeight 2 = .ok (.iconst 0, 1) := by decide +kernel
theorem dX9_greatestWeight_3 : decode cX9_greatestWeight 3 = .ok (.istore_n 2, 1) := by decide +kernel
theorem dX9_greatestWeight_4 : decode cX9_greatestWeight 4 = .ok (.iload_n 2, 1) := by decide +kernel
theorem dX9_greatestWeight_5 : decode cX9_greatestWeight 5 = .ok (.sipush 1000, 3) := by decide +kernel
theorem dX9_greatestWeight_8 : decode cX9_greatestWeight 8 = .ok (.if_icmp .ge 20, 3) := by decide +kernel
theorem dX9_greatestWeight_11 : decode cX9_greatestWeight 11 = .ok (.iload_n 1, 1) := by decide +kernel
theorem dX9_greatestWeight_12 : decode cX9_greatestWeight 12 = .ok (.aload_n 0, 1) := by decide +kernel
theorem dX9_greatestWeight_13 : decode cX9_greatestWeight 13 = .ok (.getfield 15, 3) := by decide +kernel
theorem dX9_greatestWeight_16 : decode cX9_greatestWeight 16 = .ok (.iload_n 2, 1) := by decide +kernel
theorem dX9_greatestWeight_17 : decode cX9_greatestWeight 17 = .ok (.iaload, 1) := by decide +kernel
theorem dX9_greatestWeight_18 : decode cX9_greatestWeight 18 = .ok (.invokestatic 130, 3) := by decide +kernel
theorem dX9_greatestWeight_21 : decode cX9_greatestWeight 21 = .ok (.istore_n 1, 1) := by decide +kernel
theorem dX9_greatestWeight_22 : decode cX9_greatestWeight 22 = .ok (.iinc 2 1, 3) := by decide +kernel
theorem dX9_greatestWeight_25 : decode cX9_greatestWeight 25 = .ok (.goto (-21), 3) := by decide +kernel
theorem dX9_greatestWeight_28 : decode cX9_greatestWeight 28 = .ok (.iload_n 1, 1) := by decide +kernel
theorem dX9_greatestWeight_29 : decode cX9_greatestWeight 29 = .ok (.ireturn, 1) := by decide +kernel
theorem dX9_weightByRank_0 : decode cX9_weightByRank 0 = .ok (.iconst 0, 1) := by decide +kernel
theorem dX9_weightByRank_1 : decode cX9_weightByRank 1 = .ok (.istore_n 2, 1) := by decide +kernel
theorem dX9_weightByRank_2 : decode cX9_weightByRank 2 = .ok (.aload_n 0, 1) := by decide +kernel
theorem dX9_weightByRank_3 : decode cX9_weightByRank 3 = .ok (.invokevirtual 136, 3) := by decide +kernel
theorem dX9_weightByRank_6 : decode cX9_weightByRank 6 = .ok (.istore_n 3, 1) := by decide +kernel
theorem dX9_weightByRank_7 : decode cX9_weightByRank 7 = .ok (.iconst 0, 1) := by decide +kernel
theorem dX9_weightByRank_8 : decode cX9_weightByRank 8 = .ok (.istore 4, 2) := by decide +kernel
theorem dX9_weightByRank_10 : decode cX9_weightByRank 10 = .ok (.iload 4, 2) := by decide +kernel
theorem dX9_weightByRank_12 : decode cX9_weightByRank 12 = .ok (.bipush 32, 2) := by decide +kernel
theorem dX9_weightByRank_14 : decode cX9_weightByRank 14 = .ok (.if_icmp .ge 44, 3) := by decide +kernel
theorem dX9_weightByRank_17 : decode cX9_weightByRank 17 = .ok (.iload_n 2, 1) := by decide +kernel
theorem dX9_weightByRank_18 : decode cX9_weightByRank 18 = .ok (.iload_n 3, 1) := by decide +kernel
theorem dX9_weightByRank_19 : decode cX9_weightByRank 19 = .ok (.if_icmp .ge 39, 3) := by decide +kernel
theorem dX9_weightByRank_22 : decode cX9_weightByRank 22 = .ok (.iload_n 2, 1) := by decide +kernel
theorem dX9_weightByRank_23 : decode cX9_weightByRank 23 = .ok (.iload_n 3, 1) := by decide +kernel
theorem dX9_weightByRank_24 : decode cX9_weightByRank 24 = .ok (.iload_n 2, 1) := by decide +kernel
theorem dX9_weightByRank_25 : decode cX9_weightByRank 25 = .ok (.isub, 1) := by decide +kernel
theorem dX9_weightByRank_26 : decode cX9_weightByRank 26 = .ok (.iconst 2, 1) := by decide +kernel
theorem dX9_weightByRank_27 : decode cX9_weightByRank 27 = .ok (.idiv, 1) := by decide +kernel
theorem dX9_weightByRank_28 : decode cX9_weightByRank 28 = .ok (.iadd, 1) := by decide +kernel
theorem dX9_weightByRank_29 : decode cX9_weightByRank 29 = .ok (.istore 5, 2) := by decide +kernel
theorem dX9_weightByRank_31 : decode cX9_weightByRank 31 = .ok (.aload_n 0, 1) := by decide +kernel
theorem dX9_weightByRank_32 : decode cX9_weightByRank 32 = .ok (.iload 5, 2) := by decide +kernel
theorem dX9_weightByRank_34 : decode cX9_weightByRank 34 = .ok (.invokevirtual 140, 3) := by decide +kernel
theorem dX9_weightByRank_37 : decode cX9_weightByRank 37 = .ok (.iload_n 1, 1) := by decide +kernel
theorem dX9_weightByRank_38 : decode cX9_weightByRank 38 = .ok (.if_icmp .gt 9, 3) := by decide +kernel
theorem dX9_weightByRank_41 : decode cX9_weightByRank 41 = .ok (.iload 5, 2) := by decide +kernel
theorem dX9_weightByRank_43 : decode cX9_weightByRank 43 = .ok (.istore_n 3, 1) := by decide +kernel
theorem dX9_weightByRank_44 : decode cX9_weightByRank 44 = .ok (.goto 8, 3) := by decide +kernel
theorem dX9_weightByRank_47 : decode cX9_weightByRank 47 = .ok (.iload 5, 2) := by decide +kernel
theorem dX9_weightByRank_49 : decode cX9_weightByRank 49 = .ok (.iconst 1, 1) := by decide +kernel
theorem dX9_weightByRank_50 : decode cX9_weightByRank 50 = .ok (.iadd, 1) := by decide +kernel
theorem dX9_weightByRank_51 : decode cX9_weightByRank 51 = .ok (.istore_n 2, 1) := by decide +kernel
theorem dX9_weightByRank_52 : decode cX9_weightByRank 52 = .ok (.iinc 4 1, 3) := by decide +kernel
theorem dX9_weightByRank_55 : decode cX9_weightByRank 55 = .ok (.goto (-45), 3) := by decide +kernel
theorem dX9_weightByRank_58 : decode cX9_weightByRank 58 = .ok (.iload_n 2, 1) := by decide +kernel
theorem dX9_weightByRank_59 : decode cX9_weightByRank 59 = .ok (.ireturn, 1) := by decide +kernel
theorem dX9_keyOfWeight_0 : decode cX9_keyOfWeight 0 = .ok (.iconst 0, 1) := by decide +kernel
theorem dX9_keyOfWeight_1 : decode cX9_keyOfWeight 1 = .ok (.istore_n 3, 1) := by decide +kernel
theorem dX9_keyOfWeight_2 : decode cX9_keyOfWeight 2 = .ok (.iconst 0, 1) := by decide +kernel
theorem dX9_keyOfWeight_3 : decode cX9_keyOfWeight 3 = .ok (.istore 4, 2) := by decide +kernel
theorem dX9_keyOfWeight_5 : decode cX9_keyOfWeight 5 = .ok (.iload 4, 2) := by decide +kernel
theorem dX9_keyOfWeight_7 : decode cX9_keyOfWeight 7 = .ok (.sipush 1000, 3) := by decide +kernel
theorem dX9_keyOfWeight_10 : decode cX9_keyOfWeight 10 = .ok (.if_icmp .ge 31, 3) := by decide +kernel
theorem dX9_keyOfWeight_13 : decode cX9_keyOfWeight 13 = .ok (.aload_n 0, 1) := by decide +kernel
theorem dX9_keyOfWeight_14 : decode cX9_keyOfWeight 14 = .ok (.getfield 15, 3) := by decide +kernel
theorem dX9_keyOfWeight_17 : decode cX9_keyOfWeight 17 = .ok (.iload 4, 2) := by decide +kernel
theorem dX9_keyOfWeight_19 : decode cX9_keyOfWeight 19 = .ok (.iaload, 1) := by decide +kernel
theorem dX9_keyOfWeight_20 : decode cX9_keyOfWeight 20 = .ok (.iload_n 1, 1) := by decide +kernel
theorem dX9_keyOfWeight_21 : decode cX9_keyOfWeight 21 = .ok (.if_icmp .ne 14, 3) := by decide +kernel
theorem dX9_keyOfWeight_24 : decode cX9_keyOfWeight 24 = .ok (.iload_n 3, 1) := by decide +kernel
theorem dX9_keyOfWeight_25 : decode cX9_keyOfWeight 25 = .ok (.iload_n 2, 1) := by decide +kernel
theorem dX9_keyOfWeight_26 : decode cX9_keyOfWeight 26 = .ok (.if_icmp .ne 6, 3) := by decide +kernel
theorem dX9_keyOfWeight_29 : decode cX9_keyOfWeight 29 = .ok (.iload 4, 2) := by decide +kernel
theorem dX9_keyOfWeight_31 : decode cX9_keyOfWeight 31 = .ok (.ireturn, 1) := by decide +kernel
theorem dX9_keyOfWeight_32 : decode cX9_keyOfWeight 32 = .ok (.iinc 3 1, 3) := by decide +kernel
theorem dX9_keyOfWeight_35 : decode cX9_keyOfWeight 35 = .ok (.iinc 4 1, 3) := by decide +kernel
theorem dX9_keyOfWeight_38 : decode cX9_keyOfWeight 38 = .ok (.goto (-33), 3) := by decide +kernel
theorem dX9_keyOfWeight_41 : decode cX9_keyOfWeight 41 = .ok (.iconst (-1), 1) := by decide +kernel
theorem dX9_keyOfWeight_42 : decode cX9_keyOfWeight 42 = .ok (.ireturn, 1) := by decide +kernel
theorem dX9_cutsWithin_0 : decode cX9_cutsWithin 0 = .ok (.iconst 0, 1) := by decide +kernel
theorem dX9_cutsWithin_1 : decode cX9_cutsWithin 1 = .ok (.istore 4, 2) := by decide +kernel
theorem dX9_cutsWithin_3 : decode cX9_cutsWithin 3 = .ok (.aload_n 0, 1) := by decide +kernel
theorem dX9_cutsWithin_4 : decode cX9_cutsWithin 4 = .ok (.getfield 15, 3) := by decide +kernel
theorem dX9_cutsWithin_7 : decode cX9_cutsWithin 7 = .ok (.iload_n 1, 1) := by decide +kernel
theorem dX9_cutsWithin_8 : decode cX9_cutsWithin 8 = .ok (.iaload, 1) := by decide +kernel
theorem dX9_cutsWithin_9 : decode cX9_cutsWithin 9 = .ok (.i2l, 1) := by decide +kernel
theorem dX9_cutsWithin_10 : decode cX9_cutsWithin 10 = .ok (.lstore 5, 2) := by decide +kernel
theorem dX9_cutsWithin_12 : decode cX9_cutsWithin 12 = .ok (.iload_n 1, 1) := by decide +kernel
theorem dX9_cutsWithin_13 : decode cX9_cutsWithin 13 = .ok (.iconst 1, 1) := by decide +kernel
theorem dX9_cutsWithin_14 : decode cX9_cutsWithin 14 = .ok (.iadd, 1) := by decide +kernel
theorem dX9_cutsWithin_15 : decode cX9_cutsWithin 15 = .ok (.istore 7, 2) := by decide +kernel
theorem dX9_cutsWithin_17 : decode cX9_cutsWithin 17 = .ok (.iload 7, 2) := by decide +kernel
theorem dX9_cutsWithin_19 : decode cX9_cutsWithin 19 = .ok (.iload_n 2, 1) := by decide +kernel
theorem dX9_cutsWithin_20 : decode cX9_cutsWithin 20 = .ok (.if_icmp .ge 45, 3) := by decide +kernel
theorem dX9_cutsWithin_23 : decode cX9_cutsWithin 23 = .ok (.lload 5, 2) := by decide +kernel
theorem dX9_cutsWithin_25 : decode cX9_cutsWithin 25 = .ok (.aload_n 0, 1) := by decide +kernel
theorem dX9_cutsWithin_26 : decode cX9_cutsWithin 26 = .ok (.getfield 15, 3) := by decide +kernel
theorem dX9_cutsWithin_29 : decode cX9_cutsWithin 29 = .ok (.iload 7, 2) := by decide +kernel
theorem dX9_cutsWithin_31 : decode cX9_cutsWithin 31 = .ok (.iaload, 1) := by decide +kernel
theorem dX9_cutsWithin_32 : decode cX9_cutsWithin 32 = .ok (.i2l, 1) := by decide +kernel
theorem dX9_cutsWithin_33 : decode cX9_cutsWithin 33 = .ok (.ladd, 1) := by decide +kernel
theorem dX9_cutsWithin_34 : decode cX9_cutsWithin 34 = .ok (.iload_n 3, 1) := by decide +kernel
theorem dX9_cutsWithin_35 : decode cX9_cutsWithin 35 = .ok (.i2l, 1) := by decide +kernel
theorem dX9_cutsWithin_36 : decode cX9_cutsWithin 36 = .ok (.lcmp, 1) := by decide +kernel
theorem dX9_cutsWithin_37 : decode cX9_cutsWithin 37 = .ok (.ifCond .le 9, 3) := by decide +kernel
theorem dX9_cutsWithin_40 : decode cX9_cutsWithin 40 = .ok (.iinc 4 1, 3) := by decide +kernel
theorem dX9_cutsWithin_43 : decode cX9_cutsWithin 43 = .ok (.lconst 0, 1) := by decide +kernel
theorem dX9_cutsWithin_44 : decode cX9_cutsWithin 44 = .ok (.lstore 5, 2) := by decide +kernel
theorem dX9_cutsWithin_46 : decode cX9_cutsWithin 46 = .ok (.lload 5, 2) := by decide +kernel
theorem dX9_cutsWithin_48 : decode cX9_cutsWithin 48 = .ok (.aload_n 0, 1) := by decide +kernel
theorem dX9_cutsWithin_49 : decode cX9_cutsWithin 49 = .ok (.getfield 15, 3) := by decide +kernel
theorem dX9_cutsWithin_52 : decode cX9_cutsWithin 52 = .ok (.iload 7, 2) := by decide +kernel
theorem dX9_cutsWithin_54 : decode cX9_cutsWithin 54 = .ok (.iaload, 1) := by decide +kernel
theorem dX9_cutsWithin_55 : decode cX9_cutsWithin 55 = .ok (.i2l, 1) := by decide +kernel
theorem dX9_cutsWithin_56 : decode cX9_cutsWithin 56 = .ok (.ladd, 1) := by decide +kernel
theorem dX9_cutsWithin_57 : decode cX9_cutsWithin 57 = .ok (.lstore 5, 2) := by decide +kernel
theorem dX9_cutsWithin_59 : decode cX9_cutsWithin 59 = .ok (.iinc 7 1, 3) := by decide +kernel
theorem dX9_cutsWithin_62 : decode cX9_cutsWithin 62 = .ok (.goto (-45), 3) := by decide +kernel
theorem dX9_cutsWithin_65 : decode cX9_cutsWithin 65 = .ok (.iload 4, 2) := by decide +kernel
theorem dX9_cutsWithin_67 : decode cX9_cutsWithin 67 = .ok (.ireturn, 1) := by decide +kernel
