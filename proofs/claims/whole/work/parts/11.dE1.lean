theorem dX11_isIn_0 : decode cX11_isIn 0 = .ok (.lload_n 0, 1) := by decide +kernel
theorem dX11_isIn_1 : decode cX11_isIn 1 = .ok (.lload_n 2, 1) := by decide +kernel
theorem dX11_isIn_2 : decode cX11_isIn 2 = .ok (.lcmp, 1) := by decide +kernel
theorem dX11_isIn_3 : decode cX11_isIn 3 = .ok (.ifCond .lt 14, 3) := by decide +kernel
theorem dX11_isIn_6 : decode cX11_isIn 6 = .ok (.lload_n 0, 1) := by decide +kernel
theorem dX11_isIn_7 : decode cX11_isIn 7 = .ok (.lload 4, 2) := by decide +kernel
theorem dX11_isIn_9 : decode cX11_isIn 9 = .ok (.lcmp, 1) := by decide +kernel
theorem dX11_isIn_10 : decode cX11_isIn 10 = .ok (.ifCond .gt 7, 3) := by decide +kernel
theorem dX11_isIn_13 : decode cX11_isIn 13 = .ok (.iconst 1, 1) := by decide +kernel
theorem dX11_isIn_14 : decode cX11_isIn 14 = .ok (.goto 4, 3) := by decide +kernel
theorem dX11_isIn_17 : decode cX11_isIn 17 = .ok (.iconst 0, 1) := by decide +kernel
theorem dX11_isIn_18 : decode cX11_isIn 18 = .ok (.ireturn, 1) := by decide +kernel
theorem dX11_init_0 : decode cX11_init 0 = .ok (.aload_n 0, 1) := by decide +kernel
theorem dX11_init_1 : decode cX11_init 1 = .ok (.invokespecial 1, 3) := by decide +kernel
theorem dX11_init_4 : decode cX11_init 4 = .ok (.aload_n 0, 1) := by decide +kernel
theorem dX11_init_5 : decode cX11_init 5 = .ok (.sipush 8597, 3) := by decide +kernel
theorem dX11_init_8 : decode cX11_init 8 = .ok (.newarray .int, 2) := by decide +kernel
theorem dX11_init_10 : decode cX11_init 10 = .ok (.putfield 7, 3) := by decide +kernel
theorem dX11_init_13 : decode cX11_init 13 = .ok (.aload_n 0, 1) := by decide +kernel
theorem dX11_init_14 : decode cX11_init 14 = .ok (.sipush 8597, 3) := by decide +kernel
theorem dX11_init_17 : decode cX11_init 17 = .ok (.newarray .int, 2) := by decide +kernel
theorem dX11_init_19 : decode cX11_init 19 = .ok (.putfield 13, 3) := by decide +kernel
theorem dX11_init_22 : decode cX11_init 22 = .ok (.aload_n 0, 1) := by decide +kernel
theorem dX11_init_23 : decode cX11_init 23 = .ok (.sipush 8597, 3) := by decide +kernel
theorem dX11_init_26 : decode cX11_init 26 = .ok (.newarray .int, 2) := by decide +kernel
theorem dX11_init_28 : decode cX11_init 28 = .ok (.putfield 16, 3) := by decide +kernel
theorem dX11_init_31 : decode cX11_init 31 = .ok (.aload_n 0, 1) := by decide +kernel
theorem dX11_init_32 : decode cX11_init 32 = .ok (.ldc 19, 2) := by decide +kernel
theorem dX11_init_34 : decode cX11_init 34 = .ok (.newarray .int, 2) := by decide +kernel
theorem dX11_init_36 : decode cX11_init 36 = .ok (.putfield 20, 3) := by decide +kernel
theorem dX11_init_39 : decode cX11_init 39 = .ok (.aload_n 0, 1) := by decide +kernel
theorem dX11_init_40 : decode cX11_init 40 = .ok (.sipush 12000, 3) := by decide +kernel
theorem dX11_init_43 : decode cX11_init 43 = .ok (.newarray .int, 2) := by decide +kernel
theorem dX11_init_45 : decode cX11_init 45 = .ok (.putfield 23, 3) := by decide +kernel
theorem dX11_init_48 : decode cX11_init 48 = .ok (.aload_n 0, 1) := by decide +kernel
theorem dX11_init_49 : decode cX11_init 49 = .ok (.sipush 12000, 3) := by decide +kernel
theorem dX11_init_52 : decode cX11_init 52 = .ok (.newarray .int, 2) := by decide +kernel
theorem dX11_init_54 : decode cX11_init 54 = .ok (.putfield 26, 3) := by decide +kernel
theorem dX11_init_57 : decode cX11_init 57 = .ok (.aload_n 0, 1) := by decide +kernel
theorem dX11_init_58 : decode cX11_init 58 = .ok (.sipush 400, 3) := by decide +kernel
theorem dX11_init_61 : decode cX11_init 61 = .ok (.newarray .byte, 2) := by decide +kernel
theorem dX11_init_63 : decode cX11_init 63 = .ok (.putfield 29, 3) := by decide +kernel
theorem dX11_init_66 : decode cX11_init 66 = .ok (.aload_n 0, 1) := by decide +kernel
theorem dX11_init_67 : decode cX11_init 67 = .ok (.iconst (-1), 1) := by decide +kernel
theorem dX11_init_68 : decode cX11_init 68 = .ok (.putfield 33, 3) := by decide +kernel
theorem dX11_init_71 : decode cX11_init 71 = .ok (.aload_n 0, 1) := by decide +kernel
theorem dX11_init_72 : decode cX11_init 72 = .ok (.iconst (-1), 1) := by decide +kernel
theorem dX11_init_73 : decode cX11_init 73 = .ok (.putfield 37, 3) := by decide +kernel
theorem dX11_init_76 : decode cX11_init 76 = .ok (.aload_n 0, 1) := by decide +kernel
theorem dX11_init_77 : decode cX11_init 77 = .ok (.sipush 160, 3) := by decide +kernel
theorem dX11_init_80 : decode cX11_init 80 = .ok (.newarray .int, 2) := by decide +kernel
theorem dX11_init_82 : decode cX11_init 82 = .ok (.putfield 40, 3) := by decide +kernel
theorem dX11_init_85 : decode cX11_init 85 = .ok (.aload_n 0, 1) := by decide +kernel
theorem dX11_init_86 : decode cX11_init 86 = .ok (.getfield 7, 3) := by decide +kernel
theorem dX11_init_89 : decode cX11_init 89 = .ok (.iconst 0, 1) := by decide +kernel
theorem dX11_init_90 : decode cX11_init 90 = .ok (.iconst 1, 1) := by decide +kernel
theorem dX11_init_91 : decode cX11_init 91 = .ok (.iastore, 1) := by decide +kernel
theorem dX11_init_92 : decode cX11_init 92 = .ok (.aload_n 0, 1) := by decide +kernel
theorem dX11_init_93 : decode cX11_init 93 = .ok (.getfield 7, 3) := by decide +kernel
theorem dX11_init_96 : decode cX11_init 96 = .ok (.iconst 1, 1) := by decide +kernel
theorem dX11_init_97 : decode cX11_init 97 = .ok (.iconst 1, 1) := by decide +kernel
theorem dX11_init_98 : decode cX11_init 98 = .ok (.iastore, 1) := by decide +kernel
theorem dX11_init_99 : decode cX11_init 99 = .ok (.aload_n 0, 1) := by decide +kernel
theorem dX11_init_100 : decode cX11_init 100 = .ok (.getfield 7, 3) := by decide +kernel
theorem dX11_init_103 : decode cX11_init 103 = .ok (.iconst 2, 1) := by decide +kernel
theorem dX11_init_104 : decode cX11_init 104 = .ok (.iconst 4, 1) := by decide +kernel
theorem dX11_init_105 : decode cX11_init 105 = .ok (.iastore, 1) := by decide +kernel
theorem dX11_init_106 : decode cX11_init 106 = .ok (.aload_n 0, 1) := by decide +kernel
theorem dX11_init_107 : decode cX11_init 107 = .ok (.getfield 7, 3) := by decide +kernel
theorem dX11_init_110 : decode cX11_init 110 = .ok (.bipush 74, 2) := by decide +kernel
theorem dX11_init_112 : decode cX11_init 112 = .ok (.iconst 1, 1) := by decide +kernel
theorem dX11_init_113 : decode cX11_init 113 = .ok (.iastore, 1) := by decide +kernel
theorem dX11_init_114 : decode cX11_init 114 = .ok (.iconst 0, 1) := by decide +kernel
theorem dX11_init_115 : decode cX11_init 115 = .ok (.istore_n 1, 1) := by decide +kernel
theorem dX11_init_116 : decode cX11_init 116 = .ok (.iload_n 1, 1) := by decide +kernel
theorem dX11_init_117 : decode cX11_init 117 = .ok (.bipush 6, 2) := by decide +kernel
theorem dX11_init_119 : decode cX11_init 119 = .ok (.if_icmp .ge 18, 3) := by decide +kernel
theorem dX11_init_122 : decode cX11_init 122 = .ok (.aload_n 0, 1) := by decide +kernel
theorem dX11_init_123 : decode cX11_init 123 = .ok (.getfield 7, 3) := by decide +kernel
theorem dX11_init_126 : decode cX11_init 126 = .ok (.iconst 4, 1) := by decide +kernel
theorem dX11_init_127 : decode cX11_init 127 = .ok (.iload_n 1, 1) := by decide +kernel
theorem dX11_init_128 : decode cX11_init 128 = .ok (.iadd, 1) := by decide +kernel
theorem dX11_init_129 : decode cX11_init 129 = .ok (.iconst 1, 1) := by decide +kernel
theorem dX11_init_130 : decode cX11_init 130 = .ok (.iastore, 1) := by decide +kernel
theorem dX11_init_131 : decode cX11_init 131 = .ok (.iinc 1 1, 3) := by decide +kernel
theorem dX11_init_134 : decode cX11_init 134 = .ok (.goto (-18), 3) := by decide +kernel
theorem dX11_init_137 : decode cX11_init 137 = .ok (.return_, 1) := by decide +kernel
theorem dX11_counts_0 : decode cX11_counts 0 = .ok (.aload_n 0, 1) := by decide +kernel
theorem dX11_counts_1 : decode cX11_counts 1 = .ok (.getfield 7, 3) := by decide +kernel
theorem dX11_counts_4 : decode cX11_counts 4 = .ok (.sipush 8558, 3) := by decide +kernel
theorem dX11_counts_7 : decode cX11_counts 7 = .ok (.iload_n 1, 1) := by decide +kernel
theorem dX11_counts_8 : decode cX11_counts 8 = .ok (.iadd, 1) := by decide +kernel
theorem dX11_counts_9 : decode cX11_counts 9 = .ok (.dup2, 1) := by decide +kernel
theorem dX11_counts_10 : decode cX11_counts 10 = .ok (.iaload, 1) := by decide +kernel
theorem dX11_counts_11 : decode cX11_counts 11 = .ok (.iload_n 2, 1) := by decide +kernel
theorem dX11_counts_12 : decode cX11_counts 12 = .ok (.iadd, 1) := by decide +kernel
theorem dX11_counts_13 : decode cX11_counts 13 = .ok (.iastore, 1) := by decide +kernel
theorem dX11_counts_14 : decode cX11_counts 14 = .ok (.return_, 1) := by decide +kernel
theorem dX11_isKey_0 : decode cX11_isKey 0 = .ok (.iload_n 0, 1) := by decide +kernel
theorem dX11_isKey_1 : decode cX11_isKey 1 = .ok (.i2l, 1) := by decide +kernel
theorem dX11_isKey_2 : decode cX11_isKey 2 = .ok (.lconst 0, 1) := by decide +kernel
theorem dX11_isKey_3 : decode cX11_isKey 3 = .ok (.ldc2_w 43, 3) := by decide +kernel
theorem dX11_isKey_6 : decode cX11_isKey 6 = .ok (.invokestatic 45, 3) := by decide +kernel
theorem dX11_isKey_9 : decode cX11_isKey 9 = .ok (.ireturn, 1) := by decide +kernel
theorem dX11_isServer_0 : decode cX11_isServer 0 = .ok (.iload_n 0, 1) := by decide +kernel
theorem dX11_isServer_1 : decode cX11_isServer 1 = .ok (.i2l, 1) := by decide +kernel
theorem dX11_isServer_2 : decode cX11_isServer 2 = .ok (.lconst 0, 1) := by decide +kernel
theorem dX11_isServer_3 : decode cX11_isServer 3 = .ok (.ldc2_w 49, 3) := by decide +kernel
theorem dX11_isServer_6 : decode cX11_isServer 6 = .ok (.invokestatic 45, 3) := by decide +kernel
theorem dX11_isServer_9 : decode cX11_isServer 9 = .ok (.ireturn, 1) := by decide +kernel
theorem dX11_isClient_0 : decode cX11_isClient 0 = .ok (.iload_n 0, 1) := by decide +kernel
theorem dX11_isClient_1 : decode cX11_isClient 1 = .ok (.i2l, 1) := by decide +kernel
theorem dX11_isClient_2 : decode cX11_isClient 2 = .ok (.lconst 0, 1) := by decide +kernel
theorem dX11_isClient_3 : decode cX11_isClient 3 = .ok (.ldc2_w 49, 3) := by decide +kernel
theorem dX11_isClient_6 : decode cX11_isClient 6 = .ok (.invokestatic 45, 3) := by decide +kernel
theorem dX11_isClient_9 : decode cX11_isClient 9 = .ok (.ireturn, 1) := by decide +kernel
theorem dX11_storeAt_0 : decode cX11_storeAt 0 = .ok (.sipush 1106, 3) := by decide +kernel
theorem dX11_storeAt_3 : decode cX11_storeAt 3 = .ok (.sipush 1000, 3) := by decide +kernel
theorem dX11_storeAt_6 : decode cX11_storeAt 6 = .ok (.iload_n 0, 1) := by decide +kernel
theorem dX11_storeAt_7 : decode cX11_storeAt 7 = .ok (.imul, 1) := by decide +kernel
theorem dX11_storeAt_8 : decode cX11_storeAt 8 = .ok (.iadd, 1) := by decide +kernel
theorem dX11_storeAt_9 : decode cX11_storeAt 9 = .ok (.iload_n 1, 1) := by decide +kernel
theorem dX11_storeAt_10 : decode cX11_storeAt 10 = .ok (.iadd, 1) := by decide +kernel
theorem dX11_storeAt_11 : decode cX11_storeAt 11 = .ok (.ireturn, 1) := by decide +kernel
theorem dX11_remembers_0 : decode cX11_remembers 0 = .ok (.aload_n 0, 1) := by decide +kernel
theorem dX11_remembers_1 : decode cX11_remembers 1 = .ok (.getfield 51, 3) := by decide +kernel
theorem dX11_remembers_4 : decode cX11_remembers 4 = .ok (.bipush 6, 2) := by decide +kernel
theorem dX11_remembers_6 : decode cX11_remembers 6 = .ok (.if_icmp .ne 45, 3) := by decide +kernel
theorem dX11_remembers_9 : decode cX11_remembers 9 = .ok (.sipush 8558, 3) := by decide +kernel
theorem dX11_remembers_12 : decode cX11_remembers 12 = .ok (.istore_n 2, 1) := by decide +kernel
theorem dX11_remembers_13 : decode cX11_remembers 13 = .ok (.iload_n 2, 1) := by decide +kernel
theorem dX11_remembers_14 : decode cX11_remembers 14 = .ok (.ldc 19, 2) := by decide +kernel
theorem dX11_remembers_16 : decode cX11_remembers 16 = .ok (.if_icmp .ge 25, 3) := by decide +kernel
theorem dX11_remembers_19 : decode cX11_remembers 19 = .ok (.aload_n 0, 1) := by decide +kernel
theorem dX11_remembers_20 : decode cX11_remembers 20 = .ok (.getfield 20, 3) := by decide +kernel
theorem dX11_remembers_23 : decode cX11_remembers 23 = .ok (.iload_n 2, 1) := by decide +kernel
theorem dX11_remembers_24 : decode cX11_remembers 24 = .ok (.sipush 8558, 3) := by decide +kernel
theorem dX11_remembers_27 : decode cX11_remembers 27 = .ok (.isub, 1) := by decide +kernel
theorem dX11_remembers_28 : decode cX11_remembers 28 = .ok (.aload_n 0, 1) := by decide +kernel
theorem dX11_remembers_29 : decode cX11_remembers 29 = .ok (.getfield 20, 3) := by decide +kernel
theorem dX11_remembers_32 : decode cX11_remembers 32 = .ok (.iload_n 2, 1) := by decide +kernel
theorem dX11_remembers_33 : decode cX11_remembers 33 = .ok (.iaload, 1) := by decide +kernel
theorem dX11_remembers_34 : decode cX11_remembers 34 = .ok (.iastore, 1) := by decide +kernel
theorem dX11_remembers_35 : decode cX11_remembers 35 = .ok (.iinc 2 1, 3) := by decide +kernel
theorem dX11_remembers_38 : decode cX11_remembers 38 = .ok (.goto (-25), 3) := by decide +kernel
theorem dX11_remembers_41 : decode cX11_remembers 41 = .ok (.aload_n 0, 1) := by decide +kernel
theorem dX11_remembers_42 : decode cX11_remembers 42 = .ok (.dup, 1) := by decide +kernel
theorem dX11_remembers_43 : decode cX11_remembers 43 = .ok (.getfield 51, 3) := by decide +kernel
theorem dX11_remembers_46 : decode cX11_remembers 46 = .ok (.iconst 1, 1) := by decide +kernel
theorem dX11_remembers_47 : decode cX11_remembers 47 = .ok (.isub, 1) := by decide +kernel
theorem dX11_remembers_48 : decode cX11_remembers 48 = .ok (.putfield 51, 3) := by decide +kernel
theorem dX11_remembers_51 : decode cX11_remembers 51 = .ok (.iconst 0, 1) := by decide +kernel
theorem dX11_remembers_52 : decode cX11_remembers 52 = .ok (.istore_n 2, 1) := by decide +kernel
theorem dX11_remembers_53 : decode cX11_remembers 53 = .ok (.iload_n 2, 1) := by decide +kernel
theorem dX11_remembers_54 : decode cX11_remembers 54 = .ok (.sipush 8558, 3) := by decide +kernel
theorem dX11_remembers_57 : decode cX11_remembers 57 = .ok (.if_icmp .ge 27, 3) := by decide +kernel
theorem dX11_remembers_60 : decode cX11_remembers 60 = .ok (.aload_n 0, 1) := by decide +kernel
theorem dX11_remembers_61 : decode cX11_remembers 61 = .ok (.getfield 20, 3) := by decide +kernel
theorem dX11_remembers_64 : decode cX11_remembers 64 = .ok (.sipush 8558, 3) := by decide +kernel
theorem dX11_remembers_67 : decode cX11_remembers 67 = .ok (.aload_n 0, 1) := by decide +kernel
theorem dX11_remembers_68 : decode cX11_remembers 68 = .ok (.getfield 51, 3) := by decide +kernel
theorem dX11_remembers_71 : decode cX11_remembers 71 = .ok (.imul, 1) := by decide +kernel
theorem dX11_remembers_72 : decode cX11_remembers 72 = .ok (.iload_n 2, 1) := by decide +kernel
theorem dX11_remembers_73 : decode cX11_remembers 73 = .ok (.iadd, 1) := by decide +kernel
theorem dX11_remembers_74 : decode cX11_remembers 74 = .ok (.aload_n 1, 1) := by decide +kernel
theorem dX11_remembers_75 : decode cX11_remembers 75 = .ok (.iload_n 2, 1) := by decide +kernel
theorem dX11_remembers_76 : decode cX11_remembers 76 = .ok (.iaload, 1) := by decide +kernel
theorem dX11_remembers_77 : decode cX11_remembers 77 = .ok (.iastore, 1) := by decide +kernel
theorem dX11_remembers_78 : decode cX11_remembers 78 = .ok (.iinc 2 1, 3) := by decide +kernel
theorem dX11_remembers_81 : decode cX11_remembers 81 = .ok (.goto (-28), 3) := by decide +kernel
theorem dX11_remembers_84 : decode cX11_remembers 84 = .ok (.aload_n 0, 1) := by decide +kernel
theorem dX11_remembers_85 : decode cX11_remembers 85 = .ok (.dup, 1) := by decide +kernel
theorem dX11_remembers_86 : decode cX11_remembers 86 = .ok (.getfield 51, 3) := by decide +kernel
theorem dX11_remembers_89 : decode cX11_remembers 89 = .ok (.iconst 1, 1) := by decide +kernel
theorem dX11_remembers_90 : decode cX11_remembers 90 = .ok (.iadd, 1) := by decide +kernel
theorem dX11_remembers_91 : decode cX11_remembers 91 = .ok (.putfield 51, 3) := by decide +kernel
theorem dX11_remembers_94 : decode cX11_remembers 94 = .ok (.return_, 1) := by decide +kernel
theorem dX11_laysAside_0 : decode cX11_laysAside 0 = .ok (.iconst 0, 1) := by decide +kernel
theorem dX11_laysAside_1 : decode cX11_laysAside 1 = .ok (.istore_n 1, 1) := by decide +kernel
theorem dX11_laysAside_2 : decode cX11_laysAside 2 = .ok (.iload_n 1, 1) := by decide +kernel
theorem dX11_laysAside_3 : decode cX11_laysAside 3 = .ok (.sipush 8597, 3) := by decide +kernel
theorem dX11_laysAside_6 : decode cX11_laysAside 6 = .ok (.if_icmp .ge 21, 3) := by decide +kernel
theorem dX11_laysAside_9 : decode cX11_laysAside 9 = .ok (.aload_n 0, 1) := by decide +kernel
theorem dX11_laysAside_10 : decode cX11_laysAside 10 = .ok (.getfield 13, 3) := by decide +kernel
theorem dX11_laysAside_13 : decode cX11_laysAside 13 = .ok (.iload_n 1, 1) := by decide +kernel
theorem dX11_laysAside_14 : decode cX11_laysAside 14 = .ok (.aload_n 0, 1) := by decide +kernel
theorem dX11_laysAside_15 : decode cX11_laysAside 15 = .ok (.getfield 7, 3) := by decide +kernel
theorem dX11_laysAside_18 : decode cX11_laysAside 18 = .ok (.iload_n 1, 1) := by decide +kernel
theorem dX11_laysAside_19 : decode cX11_laysAside 19 = .ok (.iaload, 1) := by decide +kernel
theorem dX11_laysAside_20 : decode cX11_laysAside 20 = .ok (.iastore, 1) := by decide +kernel
theorem dX11_laysAside_21 : decode cX11_laysAside 21 = .ok (.iinc 1 1, 3) := by decide +kernel
theorem dX11_laysAside_24 : decode cX11_laysAside 24 = .ok (.goto (-22), 3) := by decide +kernel
theorem dX11_laysAside_27 : decode cX11_laysAside 27 = .ok (.return_, 1) := by decide +kernel
theorem dX11_comesBack_0 : decode cX11_comesBack 0 = .ok (.iconst 0, 1) := by decide +kernel
theorem dX11_comesBack_1 : decode cX11_comesBack 1 = .ok (.istore_n 1, 1) := by decide +kernel
theorem dX11_comesBack_2 : decode cX11_comesBack 2 = .ok (.iload_n 1, 1) := by decide +kernel
theorem dX11_comesBack_3 : decode cX11_comesBack 3 = .ok (.sipush 8597, 3) := by decide +kernel
theorem dX11_comesBack_6 : decode cX11_comesBack 6 = .ok (.if_icmp .ge 21, 3) := by decide +kernel
theorem dX11_comesBack_9 : decode cX11_comesBack 9 = .ok (.aload_n 0, 1) := by decide +kernel
theorem dX11_comesBack_10 : decode cX11_comesBack 10 = .ok (.getfield 7, 3) := by decide +kernel
theorem dX11_comesBack_13 : decode cX11_comesBack 13 = .ok (.iload_n 1, 1) := by decide +kernel
theorem dX11_comesBack_14 : decode cX11_comesBack 14 = .ok (.aload_n 0, 1) := by decide +kernel
theorem dX11_comesBack_15 : decode cX11_comesBack 15 = .ok (.getfield 13, 3) := by decide +kernel
theorem dX11_comesBack_18 : decode cX11_comesBack 18 = .ok (.iload_n 1, 1) := by decide +kernel
theorem dX11_comesBack_19 : decode cX11_comesBack 19 = .ok (.iaload, 1) := by decide +kernel
theorem dX11_comesBack_20 : decode cX11_comesBack 20 = .ok (.iastore, 1) := by decide +kernel
theorem dX11_comesBack_21 : decode cX11_comesBack 21 = .ok (.iinc 1 1, 3) := by decide +kernel
theorem dX11_comesBack_24 : decode cX11_comesBack 24 = .ok (.goto (-22), 3) := by decide +kernel
theorem dX11_comesBack_27 : decode cX11_comesBack 27 = .ok (.return_, 1) := by decide +kernel
theorem dX11_undo_0 : decode cX11_undo 0 = .ok (.aload_n 0, 1) := by decide +kernel
theorem dX11_undo_1 : decode cX11_undo 1 = .ok (.getfield 51, 3) := by decide +kernel
theorem dX11_undo_4 : decode cX11_undo 4 = .ok (.ifCond .ne 5, 3) := by decide +kernel
theorem dX11_undo_7 : decode cX11_undo 7 = .ok (.iconst (-1), 1) := by decide +kernel
theorem dX11_undo_8 : decode cX11_undo 8 = .ok (.ireturn, 1) := by decide +kernel
theorem dX11_undo_9 : decode cX11_undo 9 = .ok (.aload_n 0, 1) := by decide +kernel
theorem dX11_undo_10 : decode cX11_undo 10 = .ok (.dup, 1) := by decide +kernel
theorem dX11_undo_11 : decode cX11_undo 11 = .ok (.getfield 51, 3) := by decide +kernel
theorem dX11_undo_14 : decode cX11_undo 14 = .ok (.iconst 1, 1) := by decide +kernel
theorem dX11_undo_15 : decode cX11_undo 15 = .ok (.isub, 1) := by decide +kernel
theorem dX11_undo_16 : decode cX11_undo 16 = .ok (.putfield 51, 3) := by decide +kernel
theorem dX11_undo_19 : decode cX11_undo 19 = .ok (.iconst 0, 1) := by decide +kernel
theorem dX11_undo_20 : decode cX11_undo 20 = .ok (.istore_n 1, 1) := by decide +kernel
theorem dX11_undo_21 : decode cX11_undo 21 = .ok (.iload_n 1, 1) := by decide +kernel
theorem dX11_undo_22 : decode cX11_undo 22 = .ok (.sipush 8558, 3) := by decide +kernel
theorem dX11_undo_25 : decode cX11_undo 25 = .ok (.if_icmp .ge 30, 3) := by decide +kernel
theorem dX11_undo_28 : decode cX11_undo 28 = .ok (.aload_n 0, 1) := by decide +kernel
theorem dX11_undo_29 : decode cX11_undo 29 = .ok (.getfield 7, 3) := by decide +kernel
theorem dX11_undo_32 : decode cX11_undo 32 = .ok (.iload_n 1, 1) := by decide +kernel
theorem dX11_undo_33 : decode cX11_undo 33 = .ok (.aload_n 0, 1) := by decide +kernel
theorem dX11_undo_34 : decode cX11_undo 34 = .ok (.getfield 20, 3) := by decide +kernel
theorem dX11_undo_37 : decode cX11_undo 37 = .ok (.sipush 8558, 3) := by decide +kernel
theorem dX11_undo_40 : decode cX11_undo 40 = .ok (.aload_n 0, 1) := by decide +kernel
theorem dX11_undo_41 : decode cX11_undo 41 = .ok (.getfield 51, 3) := by decide +kernel
theorem dX11_undo_44 : decode cX11_undo 44 = .ok (.imul, 1) := by decide +kernel
theorem dX11_undo_45 : decode cX11_undo 45 = .ok (.iload_n 1, 1) := by decide +kernel
theorem dX11_undo_46 : decode cX11_undo 46 = .ok (.iadd, 1) := by decide +kernel
theorem dX11_undo_47 : decode cX11_undo 47 = .ok (.iaload, 1) := by decide +kernel
theorem dX11_undo_48 : decode cX11_undo 48 = .ok (.iastore, 1) := by decide +kernel
theorem dX11_undo_49 : decode cX11_undo 49 = .ok (.iinc 1 1, 3) := by decide +kernel
theorem dX11_undo_52 : decode cX11_undo 52 = .ok (.goto (-31), 3) := by decide +kernel
theorem dX11_undo_55 : decode cX11_undo 55 = .ok (.aload_n 0, 1) := by decide +kernel
theorem dX11_undo_56 : decode cX11_undo 56 = .ok (.getfield 51, 3) := by decide +kernel
theorem dX11_undo_59 : decode cX11_undo 59 = .ok (.ireturn, 1) := by decide +kernel
theorem dX11_spanWith_0 : decode cX11_spanWith 0 = .ok (.aload_n 0, 1) := by decide +kernel
theorem dX11_spanWith_1 : decode cX11_spanWith 1 = .ok (.getfield 7, 3) := by decide +kernel
theorem dX11_spanWith_4 : decode cX11_spanWith 4 = .ok (.iconst 1, 1) := by decide +kernel
theorem dX11_spanWith_5 : decode cX11_spanWith 5 = .ok (.iaload, 1) := by decide +kernel
theorem dX11_spanWith_6 : decode cX11_spanWith 6 = .ok (.iconst 1, 1) := by decide +kernel
theorem dX11_spanWith_7 : decode cX11_spanWith 7 = .ok (.isub, 1) := by decide +kernel
theorem dX11_spanWith_8 : decode cX11_spanWith 8 = .ok (.istore_n 2, 1) := by decide +kernel
theorem dX11_spanWith_9 : decode cX11_spanWith 9 = .ok (.aload_n 0, 1) := by decide +kernel
theorem dX11_spanWith_10 : decode cX11_spanWith 10 = .ok (.getfield 7, 3) := by decide +kernel
theorem dX11_spanWith_13 : decode cX11_spanWith 13 = .ok (.bipush 10, 2) := by decide +kernel
theorem dX11_spanWith_15 : decode cX11_spanWith 15 = .ok (.iload_n 2, 1) := by decide +kernel
theorem dX11_spanWith_16 : decode cX11_spanWith 16 = .ok (.iadd, 1) := by decide +kernel
theorem dX11_spanWith_17 : decode cX11_spanWith 17 = .ok (.iaload, 1) := by decide +kernel
theorem dX11_spanWith_18 : decode cX11_spanWith 18 = .ok (.iload_n 1, 1) := by decide +kernel
theorem dX11_spanWith_19 : decode cX11_spanWith 19 = .ok (.if_icmp .le 9, 3) := by decide +kernel
theorem dX11_spanWith_22 : decode cX11_spanWith 22 = .ok (.iinc 2 (-1), 3) := by decide +kernel
theorem dX11_spanWith_25 : decode cX11_spanWith 25 = .ok (.goto (-16), 3) := by decide +kernel
theorem dX11_spanWith_28 : decode cX11_spanWith 28 = .ok (.iload_n 2, 1) := by decide +kernel
theorem dX11_spanWith_29 : decode cX11_spanWith 29 = .ok (.ireturn, 1) := by decide +kernel
theorem dX11_endOf_0 : decode cX11_endOf 0 = .ok (.iload_n 1, 1) := by decide +kernel
theorem dX11_endOf_1 : decode cX11_endOf 1 = .ok (.iconst 1, 1) := by decide +kernel
theorem dX11_endOf_2 : decode cX11_endOf 2 = .ok (.iadd, 1) := by decide +kernel
theorem dX11_endOf_3 : decode cX11_endOf 3 = .ok (.aload_n 0, 1) := by decide +kernel
theorem dX11_endOf_4 : decode cX11_endOf 4 = .ok (.getfield 7, 3) := by decide +kernel
theorem dX11_endOf_7 : decode cX11_endOf 7 = .ok (.iconst 1, 1) := by decide +kernel
theorem dX11_endOf_8 : decode cX11_endOf 8 = .ok (.iaload, 1) := by decide +kernel
theorem dX11_endOf_9 : decode cX11_endOf 9 = .ok (.if_icmp .ge 17, 3) := by decide +kernel
theorem dX11_endOf_12 : decode cX11_endOf 12 = .ok (.aload_n 0, 1) := by decide +kernel
theorem dX11_endOf_13 : decode cX11_endOf 13 = .ok (.getfield 7, 3) := by decide +kernel
theorem dX11_endOf_16 : decode cX11_endOf 16 = .ok (.bipush 10, 2) := by decide +kernel
theorem dX11_endOf_18 : decode cX11_endOf 18 = .ok (.iload_n 1, 1) := by decide +kernel
theorem dX11_endOf_19 : decode cX11_endOf 19 = .ok (.iadd, 1) := by decide +kernel
theorem dX11_endOf_20 : decode cX11_endOf 20 = .ok (.iconst 1, 1) := by decide +kernel
theorem dX11_endOf_21 : decode cX11_endOf 21 = .ok (.iadd, 1) := by decide +kernel
theorem dX11_endOf_22 : decode cX11_endOf 22 = .ok (.iaload, 1) := by decide +kernel
theorem dX11_endOf_23 : decode cX11_endOf 23 = .ok (.goto 6, 3) := by decide +kernel
theorem dX11_endOf_26 : decode cX11_endOf 26 = .ok (.sipush 1000, 3) := by decide +kernel
theorem dX11_endOf_29 : decode cX11_endOf 29 = .ok (.ireturn, 1) := by decide +kernel
theorem dX11_named_0 : decode cX11_named 0 = .ok (.iload_n 1, 1) := by decide +kernel
theorem dX11_named_1 : decode cX11_named 1 = .ok (.invokestatic 54, 3) := by decide +kernel
theorem dX11_named_4 : decode cX11_named 4 = .ok (.ifCond .ne 5, 3) := by decide +kernel
theorem dX11_named_7 : decode cX11_named 7 = .ok (.iconst (-1), 1) := by decide +kernel
theorem dX11_named_8 : decode cX11_named 8 = .ok (.ireturn, 1) := by decide +kernel
theorem dX11_named_9 : decode cX11_named 9 = .ok (.aload_n 0, 1) := by decide +kernel
theorem dX11_named_10 : decode cX11_named 10 = .ok (.iload_n 1, 1) := by decide +kernel
theorem dX11_named_11 : decode cX11_named 11 = .ok (.invokevirtual 58, 3) := by decide +kernel
theorem dX11_named_14 : decode cX11_named 14 = .ok (.istore_n 2, 1) := by decide +kernel
theorem dX11_named_15 : decode cX11_named 15 = .ok (.aload_n 0, 1) := by decide +kernel
theorem dX11_named_16 : decode cX11_named 16 = .ok (.getfield 7, 3) := by decide +kernel
theorem dX11_named_19 : decode cX11_named 19 = .ok (.bipush 10, 2) := by decide +kernel
theorem dX11_named_21 : decode cX11_named 21 = .ok (.iload_n 2, 1) := by decide +kernel
theorem dX11_named_22 : decode cX11_named 22 = .ok (.iadd, 1) := by decide +kernel
theorem dX11_named_23 : decode cX11_named 23 = .ok (.iaload, 1) := by decide +kernel
theorem dX11_named_24 : decode cX11_named 24 = .ok (.iload_n 1, 1) := by decide +kernel
theorem dX11_named_25 : decode cX11_named 25 = .ok (.if_icmp .ne 7, 3) := by decide +kernel
theorem dX11_named_28 : decode cX11_named 28 = .ok (.iload_n 2, 1) := by decide +kernel
theorem dX11_named_29 : decode cX11_named 29 = .ok (.goto 4, 3) := by decide +kernel
theorem dX11_named_32 : decode cX11_named 32 = .ok (.iconst (-1), 1) := by decide +kernel
theorem dX11_named_33 : decode cX11_named 33 = .ok (.ireturn, 1) := by decide +kernel
theorem dX11_moveAt_0 : decode cX11_moveAt 0 = .ok (.sipush 7694, 3) := by decide +kernel
theorem dX11_moveAt_3 : decode cX11_moveAt 3 = .ok (.bipush 72, 2) := by decide +kernel
theorem dX11_moveAt_5 : decode cX11_moveAt 5 = .ok (.iload_n 0, 1) := by decide +kernel
theorem dX11_moveAt_6 : decode cX11_moveAt 6 = .ok (.imul, 1) := by decide +kernel
theorem dX11_moveAt_7 : decode cX11_moveAt 7 = .ok (.iadd, 1) := by decide +kernel
theorem dX11_moveAt_8 : decode cX11_moveAt 8 = .ok (.ireturn, 1) := by decide +kernel
theorem dX11_isGoing_0 : decode cX11_isGoing 0 = .ok (.aload_n 0, 1) := by decide +kernel
theorem dX11_isGoing_1 : decode cX11_isGoing 1 = .ok (.getfield 7, 3) := by decide +kernel
theorem dX11_isGoing_4 : decode cX11_isGoing 4 = .ok (.iload_n 1, 1) := by decide +kernel
theorem dX11_isGoing_5 : decode cX11_isGoing 5 = .ok (.invokestatic 62, 3) := by decide +kernel
theorem dX11_isGoing_8 : decode cX11_isGoing 8 = .ok (.iconst 0, 1) := by decide +kernel
theorem dX11_isGoing_9 : decode cX11_isGoing 9 = .ok (.iadd, 1) := by decide +kernel
theorem dX11_isGoing_10 : decode cX11_isGoing 10 = .ok (.iaload, 1) := by decide +kernel
theorem dX11_isGoing_11 : decode cX11_isGoing 11 = .ok (.i2l, 1) := by decide +kernel
theorem dX11_isGoing_12 : decode cX11_isGoing 12 = .ok (.lconst 1, 1) := by decide +kernel
theorem dX11_isGoing_13 : decode cX11_isGoing 13 = .ok (.ldc2_w 65, 3) := by decide +kernel
theorem dX11_isGoing_16 : decode cX11_isGoing 16 = .ok (.invokestatic 45, 3) := by decide +kernel
theorem dX11_isGoing_19 : decode cX11_isGoing 19 = .ok (.ireturn, 1) := by decide +kernel
theorem dX11_moveOfSpan_0 : decode cX11_moveOfSpan 0 = .ok (.iconst 0, 1) := by decide +kernel
theorem dX11_moveOfSpan_1 : decode cX11_moveOfSpan 1 = .ok (.istore_n 2, 1) := by decide +kernel
theorem dX11_moveOfSpan_2 : decode cX11_moveOfSpan 2 = .ok (.iload_n 2, 1) := by decide +kernel
theorem dX11_moveOfSpan_3 : decode cX11_moveOfSpan 3 = .ok (.aload_n 0, 1) := by decide +kernel
theorem dX11_moveOfSpan_4 : decode cX11_moveOfSpan 4 = .ok (.getfield 7, 3) := by decide +kernel
theorem dX11_moveOfSpan_7 : decode cX11_moveOfSpan 7 = .ok (.iconst 3, 1) := by decide +kernel
theorem dX11_moveOfSpan_8 : decode cX11_moveOfSpan 8 = .ok (.iaload, 1) := by decide +kernel
theorem dX11_moveOfSpan_9 : decode cX11_moveOfSpan 9 = .ok (.if_icmp .ge 42, 3) := by decide +kernel
theorem dX11_moveOfSpan_12 : decode cX11_moveOfSpan 12 = .ok (.aload_n 0, 1) := by decide +kernel
theorem dX11_moveOfSpan_13 : decode cX11_moveOfSpan 13 = .ok (.iload_n 2, 1) := by decide +kernel
theorem dX11_moveOfSpan_14 : decode cX11_moveOfSpan 14 = .ok (.invokevirtual 67, 3) := by decide +kernel
theorem dX11_moveOfSpan_17 : decode cX11_moveOfSpan 17 = .ok (.ifCond .eq 28, 3) := by decide +kernel
theorem dX11_moveOfSpan_20 : decode cX11_moveOfSpan 20 = .ok (.aload_n 0, 1) := by decide +kernel
theorem dX11_moveOfSpan_21 : decode cX11_moveOfSpan 21 = .ok (.getfield 7, 3) := by decide +kernel
theorem dX11_moveOfSpan_24 : decode cX11_moveOfSpan 24 = .ok (.iload_n 2, 1) := by decide +kernel
theorem dX11_moveOfSpan_25 : decode cX11_moveOfSpan 25 = .ok (.invokestatic 62, 3) := by decide +kernel
theorem dX11_moveOfSpan_28 : decode cX11_moveOfSpan 28 = .ok (.iconst 1, 1) := by decide +kernel
theorem dX11_moveOfSpan_29 : decode cX11_moveOfSpan 29 = .ok (.iadd, 1) := by decide +kernel
theorem dX11_moveOfSpan_30 : decode cX11_moveOfSpan 30 = .ok (.iaload, 1) := by decide +kernel
theorem dX11_moveOfSpan_31 : decode cX11_moveOfSpan 31 = .ok (.aload_n 0, 1) := by decide +kernel
theorem dX11_moveOfSpan_32 : decode cX11_moveOfSpan 32 = .ok (.getfield 7, 3) := by decide +kernel
theorem dX11_moveOfSpan_35 : decode cX11_moveOfSpan 35 = .ok (.bipush 10, 2) := by decide +kernel
theorem dX11_moveOfSpan_37 : decode cX11_moveOfSpan 37 = .ok (.iload_n 1, 1) := by decide +kernel
theorem dX11_moveOfSpan_38 : decode cX11_moveOfSpan 38 = .ok (.iadd, 1) := by decide +kernel
theorem dX11_moveOfSpan_39 : decode cX11_moveOfSpan 39 = .ok (.iaload, 1) := by decide +kernel
theorem dX11_moveOfSpan_40 : decode cX11_moveOfSpan 40 = .ok (.if_icmp .ne 5, 3) := by decide +kernel
theorem dX11_moveOfSpan_43 : decode cX11_moveOfSpan 43 = .ok (.iload_n 2, 1) := by decide +kernel
theorem dX11_moveOfSpan_44 : decode cX11_moveOfSpan 44 = .ok (.ireturn, 1) := by decide +kernel
theorem dX11_moveOfSpan_45 : decode cX11_moveOfSpan 45 = .ok (.iinc 2 1, 3) := by decide +kernel
theorem dX11_moveOfSpan_48 : decode cX11_moveOfSpan 48 = .ok (.goto (-46), 3) := by decide +kernel
theorem dX11_moveOfSpan_51 : decode cX11_moveOfSpan 51 = .ok (.iconst (-1), 1) := by decide +kernel
theorem dX11_moveOfSpan_52 : decode cX11_moveOfSpan 52 = .ok (.ireturn, 1) := by decide +kernel
theorem dX11_weightOf_0 : decode cX11_weightOf 0 = .ok (.lconst 0, 1) := by decide +kernel
theorem dX11_weightOf_1 : decode cX11_weightOf 1 = .ok (.lstore_n 2, 1) := by decide +kernel
theorem dX11_weightOf_2 : decode cX11_weightOf 2 = .ok (.aload_n 0, 1) := by decide +kernel
theorem dX11_weightOf_3 : decode cX11_weightOf 3 = .ok (.getfield 7, 3) := by decide +kernel
theorem dX11_weightOf_6 : decode cX11_weightOf 6 = .ok (.bipush 10, 2) := by decide +kernel
theorem dX11_weightOf_8 : decode cX11_weightOf 8 = .ok (.iload_n 1, 1) := by decide +kernel
theorem dX11_weightOf_9 : decode cX11_weightOf 9 = .ok (.iadd, 1) := by decide +kernel
theorem dX11_weightOf_10 : decode cX11_weightOf 10 = .ok (.iaload, 1) := by decide +kernel
theorem dX11_weightOf_11 : decode cX11_weightOf 11 = .ok (.istore 4, 2) := by decide +kernel
theorem dX11_weightOf_13 : decode cX11_weightOf 13 = .ok (.iload 4, 2) := by decide +kernel
theorem dX11_weightOf_15 : decode cX11_weightOf 15 = .ok (.aload_n 0, 1) := by decide +kernel
theorem dX11_weightOf_16 : decode cX11_weightOf 16 = .ok (.iload_n 1, 1) := by decide +kernel
theorem dX11_weightOf_17 : decode cX11_weightOf 17 = .ok (.invokevirtual 70, 3) := by decide +kernel
theorem dX11_weightOf_20 : decode cX11_weightOf 20 = .ok (.if_icmp .ge 23, 3) := by decide +kernel
theorem dX11_weightOf_23 : decode cX11_weightOf 23 = .ok (.lload_n 2, 1) := by decide +kernel
theorem dX11_weightOf_24 : decode cX11_weightOf 24 = .ok (.aload_n 0, 1) := by decide +kernel
theorem dX11_weightOf_25 : decode cX11_weightOf 25 = .ok (.getfield 7, 3) := by decide +kernel
theorem dX11_weightOf_28 : decode cX11_weightOf 28 = .ok (.bipush 106, 2) := by decide +kernel
theorem dX11_weightOf_30 : decode cX11_weightOf 30 = .ok (.iload 4, 2) := by decide +kernel
theorem dX11_weightOf_32 : decode cX11_weightOf 32 = .ok (.iadd, 1) := by decide +kernel
theorem dX11_weightOf_33 : decode cX11_weightOf 33 = .ok (.iaload, 1) := by decide +kernel
theorem dX11_weightOf_34 : decode cX11_weightOf 34 = .ok (.i2l, 1) := by decide +kernel
theorem dX11_weightOf_35 : decode cX11_weightOf 35 = .ok (.ladd, 1) := by decide +kernel
theorem dX11_weightOf_36 : decode cX11_weightOf 36 = .ok (.lstore_n 2, 1) := by decide +kernel
theorem dX11_weightOf_37 : decode cX11_weightOf 37 = .ok (.iinc 4 1, 3) := by decide +kernel
theorem dX11_weightOf_40 : decode cX11_weightOf 40 = .ok (.goto (-27), 3) := by decide +kernel
theorem dX11_weightOf_43 : decode cX11_weightOf 43 = .ok (.lload_n 2, 1) := by decide +kernel
theorem dX11_weightOf_44 : decode cX11_weightOf 44 = .ok (.lreturn, 1) := by decide +kernel
theorem dX11_loadOf_0 : decode cX11_loadOf 0 = .ok (.lconst 0, 1) := by decide +kernel
theorem dX11_loadOf_1 : decode cX11_loadOf 1 = .ok (.lstore_n 2, 1) := by decide +kernel
theorem dX11_loadOf_2 : decode cX11_loadOf 2 = .ok (.iconst 0, 1) := by decide +kernel
theorem dX11_loadOf_3 : decode cX11_loadOf 3 = .ok (.istore 4, 2) := by decide +kernel
theorem dX11_loadOf_5 : decode cX11_loadOf 5 = .ok (.iload 4, 2) := by decide +kernel
theorem dX11_loadOf_7 : decode cX11_loadOf 7 = .ok (.aload_n 0, 1) := by decide +kernel
theorem dX11_loadOf_8 : decode cX11_loadOf 8 = .ok (.getfield 7, 3) := by decide +kernel
theorem dX11_loadOf_11 : decode cX11_loadOf 11 = .ok (.iconst 1, 1) := by decide +kernel
theorem dX11_loadOf_12 : decode cX11_loadOf 12 = .ok (.iaload, 1) := by decide +kernel
theorem dX11_loadOf_13 : decode cX11_loadOf 13 = .ok (.if_icmp .ge 36, 3) := by decide +kernel
theorem dX11_loadOf_16 : decode cX11_loadOf 16 = .ok (.lload_n 2, 1) := by decide +kernel
theorem dX11_loadOf_17 : decode cX11_loadOf 17 = .ok (.aload_n 0, 1) := by decide +kernel
theorem dX11_loadOf_18 : decode cX11_loadOf 18 = .ok (.getfield 7, 3) := by decide +kernel
theorem dX11_loadOf_21 : decode cX11_loadOf 21 = .ok (.bipush 42, 2) := by decide +kernel
theorem dX11_loadOf_23 : decode cX11_loadOf 23 = .ok (.iload 4, 2) := by decide +kernel
theorem dX11_loadOf_25 : decode cX11_loadOf 25 = .ok (.iadd, 1) := by decide +kernel
theorem dX11_loadOf_26 : decode cX11_loadOf 26 = .ok (.iaload, 1) := by decide +kernel
theorem dX11_loadOf_27 : decode cX11_loadOf 27 = .ok (.iload_n 1, 1) := by decide +kernel
theorem dX11_loadOf_28 : decode cX11_loadOf 28 = .ok (.if_icmp .ne 12, 3) := by decide +kernel
theorem dX11_loadOf_31 : decode cX11_loadOf 31 = .ok (.aload_n 0, 1) := by decide +kernel
theorem dX11_loadOf_32 : decode cX11_loadOf 32 = .ok (.iload 4, 2) := by decide +kernel
theorem dX11_loadOf_34 : decode cX11_loadOf 34 = .ok (.invokevirtual 73, 3) := by decide +kernel
theorem dX11_loadOf_37 : decode cX11_loadOf 37 = .ok (.goto 4, 3) := by decide +kernel
theorem dX11_loadOf_40 : decode cX11_loadOf 40 = .ok (.lconst 0, 1) := by decide +kernel
theorem dX11_loadOf_41 : decode cX11_loadOf 41 = .ok (.ladd, 1) := by decide +kernel
theorem dX11_loadOf_42 : decode cX11_loadOf 42 = .ok (.lstore_n 2, 1) := by decide +kernel
theorem dX11_loadOf_43 : decode cX11_loadOf 43 = .ok (.iinc 4 1, 3) := by decide +kernel
theorem dX11_loadOf_46 : decode cX11_loadOf 46 = .ok (.goto (-41), 3) := by decide +kernel
theorem dX11_loadOf_49 : decode cX11_loadOf 49 = .ok (.lload_n 2, 1) := by decide +kernel
theorem dX11_loadOf_50 : decode cX11_loadOf 50 = .ok (.lreturn, 1) := by decide +kernel
theorem dX11_middleIn_0 : decode cX11_middleIn 0 = .ok (.aload_n 0, 1) := by decide +kernel
theorem dX11_middleIn_1 : decode cX11_middleIn 1 = .ok (.iload_n 1, 1) := by decide +kernel
theorem dX11_middleIn_2 : decode cX11_middleIn 2 = .ok (.invokevirtual 73, 3) := by decide +kernel
theorem dX11_middleIn_5 : decode cX11_middleIn 5 = .ok (.lstore_n 2, 1) := by decide +kernel
theorem dX11_middleIn_6 : decode cX11_middleIn 6 = .ok (.lconst 0, 1) := by decide +kernel
theorem dX11_middleIn_7 : decode cX11_middleIn 7 = .ok (.lstore 4, 2) := by decide +kernel
theorem dX11_middleIn_9 : decode cX11_middleIn 9 = .ok (.lload_n 2, 1) := by decide +kernel
theorem dX11_middleIn_10 : decode cX11_middleIn 10 = .ok (.lconst 0, 1) := by decide +kernel
theorem dX11_middleIn_11 : decode cX11_middleIn 11 = .ok (.lcmp, 1) := by decide +kernel
theorem dX11_middleIn_12 : decode cX11_middleIn 12 = .ok (.ifCond .ne 5, 3) := by decide +kernel
theorem dX11_middleIn_15 : decode cX11_middleIn 15 = .ok (.iconst (-1), 1) := by decide +kernel
theorem dX11_middleIn_16 : decode cX11_middleIn 16 = .ok (.ireturn, 1) := by decide +kernel
theorem dX11_middleIn_17 : decode cX11_middleIn 17 = .ok (.aload_n 0, 1) := by decide +kernel
theorem dX11_middleIn_18 : decode cX11_middleIn 18 = .ok (.getfield 7, 3) := by decide +kernel
theorem dX11_middleIn_21 : decode cX11_middleIn 21 = .ok (.bipush 10, 2) := by decide +kernel
theorem dX11_middleIn_23 : decode cX11_middleIn 23 = .ok (.iload_n 1, 1) := by decide +kernel
theorem dX11_middleIn_24 : decode cX11_middleIn 24 = .ok (.iadd, 1) := by decide +kernel
theorem dX11_middleIn_25 : decode cX11_middleIn 25 = .ok (.iaload, 1) := by decide +kernel
theorem dX11_middleIn_26 : decode cX11_middleIn 26 = .ok (.iconst 1, 1) := by decide +kernel
theorem dX11_middleIn_27 : decode cX11_middleIn 27 = .ok (.iadd, 1) := by decide +kernel
theorem dX11_middleIn_28 : decode cX11_middleIn 28 = .ok (.istore 6, 2) := by decide +kernel
theorem dX11_middleIn_30 : decode cX11_middleIn 30 = .ok (.iload 6, 2) := by decide +kernel
theorem dX11_middleIn_32 : decode cX11_middleIn 32 = .ok (.aload_n 0, 1) := by decide +kernel
theorem dX11_middleIn_33 : decode cX11_middleIn 33 = .ok (.iload_n 1, 1) := by decide +kernel
theorem dX11_middleIn_34 : decode cX11_middleIn 34 = .ok (.invokevirtual 70, 3) := by decide +kernel
theorem dX11_middleIn_37 : decode cX11_middleIn 37 = .ok (.if_icmp .ge 41, 3) := by decide +kernel
theorem dX11_middleIn_40 : decode cX11_middleIn 40 = .ok (.lload 4, 2) := by decide +kernel
theorem dX11_middleIn_42 : decode cX11_middleIn 42 = .ok (.aload_n 0, 1) := by decide +kernel
theorem dX11_middleIn_43 : decode cX11_middleIn 43 = .ok (.getfield 7, 3) := by decide +kernel
theorem dX11_middleIn_46 : decode cX11_middleIn 46 = .ok (.bipush 106, 2) := by decide +kernel
theorem dX11_middleIn_48 : decode cX11_middleIn 48 = .ok (.iload 6, 2) := by decide +kernel
theorem dX11_middleIn_50 : decode cX11_middleIn 50 = .ok (.iadd, 1) := by decide +kernel
theorem dX11_middleIn_51 : decode cX11_middleIn 51 = .ok (.iconst 1, 1) := by decide +kernel
theorem dX11_middleIn_52 : decode cX11_middleIn 52 = .ok (.isub, 1) := by decide +kernel
theorem dX11_middleIn_53 : decode cX11_middleIn 53 = .ok (.iaload, 1) := by decide +kernel
theorem dX11_middleIn_54 : decode cX11_middleIn 54 = .ok (.i2l, 1) := by decide +kernel
theorem dX11_middleIn_55 : decode cX11_middleIn 55 = .ok (.ladd, 1) := by decide +kernel
theorem dX11_middleIn_56 : decode cX11_middleIn 56 = .ok (.lstore 4, 2) := by decide +kernel
theorem dX11_middleIn_58 : decode cX11_middleIn 58 = .ok (.ldc2_w 77, 3) := by decide +kernel
theorem dX11_middleIn_61 : decode cX11_middleIn 61 = .ok (.lload 4, 2) := by decide +kernel
theorem dX11_middleIn_63 : decode cX11_middleIn 63 = .ok (.lmul, 1) := by decide +kernel
theorem dX11_middleIn_64 : decode cX11_middleIn 64 = .ok (.lload_n 2, 1) := by decide +kernel
theorem dX11_middleIn_65 : decode cX11_middleIn 65 = .ok (.lcmp, 1) := by decide +kernel
theorem dX11_middleIn_66 : decode cX11_middleIn 66 = .ok (.ifCond .lt 6, 3) := by decide +kernel
theorem dX11_middleIn_69 : decode cX11_middleIn 69 = .ok (.iload 6, 2) := by decide +kernel
theorem dX11_middleIn_71 : decode cX11_middleIn 71 = .ok (.ireturn, 1) := by decide +kernel
theorem dX11_middleIn_72 : decode cX11_middleIn 72 = .ok (.iinc 6 1, 3) := by decide +kernel
theorem dX11_middleIn_75 : decode cX11_middleIn 75 = .ok (.goto (-45), 3) := by decide +kernel
theorem dX11_middleIn_78 : decode cX11_middleIn 78 = .ok (.iconst (-1), 1) := by decide +kernel
theorem dX11_middleIn_79 : decode cX11_middleIn 79 = .ok (.ireturn, 1) := by decide +kernel
theorem dX11_notes_0 : decode cX11_notes 0 = .ok (.aload_n 0, 1) := by decide +kernel
theorem dX11_notes_1 : decode cX11_notes 1 = .ok (.getfield 7, 3) := by decide +kernel
theorem dX11_notes_4 : decode cX11_notes 4 = .ok (.iconst 0, 1) := by decide +kernel
theorem dX11_notes_5 : decode cX11_notes 5 = .ok (.iaload, 1) := by decide +kernel
theorem dX11_notes_6 : decode cX11_notes 6 = .ok (.sipush 4000, 3) := by decide +kernel
theorem dX11_notes_9 : decode cX11_notes 9 = .ok (.if_icmp .lt 4, 3) := by decide +kernel
theorem dX11_notes_12 : decode cX11_notes 12 = .ok (.return_, 1) := by decide +kernel
theorem dX11_notes_13 : decode cX11_notes 13 = .ok (.aload_n 0, 1) := by decide +kernel
theorem dX11_notes_14 : decode cX11_notes 14 = .ok (.getfield 23, 3) := by decide +kernel
theorem dX11_notes_17 : decode cX11_notes 17 = .ok (.iconst 3, 1) := by decide +kernel
theorem dX11_notes_18 : decode cX11_notes 18 = .ok (.aload_n 0, 1) := by decide +kernel
theorem dX11_notes_19 : decode cX11_notes 19 = .ok (.getfield 7, 3) := by decide +kernel
theorem dX11_notes_22 : decode cX11_notes 22 = .ok (.iconst 0, 1) := by decide +kernel
theorem dX11_notes_23 : decode cX11_notes 23 = .ok (.iaload, 1) := by decide +kernel
theorem dX11_notes_24 : decode cX11_notes 24 = .ok (.imul, 1) := by decide +kernel
theorem dX11_notes_25 : decode cX11_notes 25 = .ok (.iload_n 1, 1) := by decide +kernel
theorem dX11_notes_26 : decode cX11_notes 26 = .ok (.iastore, 1) := by decide +kernel
theorem dX11_notes_27 : decode cX11_notes 27 = .ok (.aload_n 0, 1) := by decide +kernel
theorem dX11_notes_28 : decode cX11_notes 28 = .ok (.getfield 23, 3) := by decide +kernel
theorem dX11_notes_31 : decode cX11_notes 31 = .ok (.iconst 3, 1) := by decide +kernel
theorem dX11_notes_32 : decode cX11_notes 32 = .ok (.aload_n 0, 1) := by decide +kernel
theorem dX11_notes_33 : decode cX11_notes 33 = .ok (.getfield 7, 3) := by decide +kernel
theorem dX11_notes_36 : decode cX11_notes 36 = .ok (.iconst 0, 1) := by decide +kernel
theorem dX11_notes_37 : decode cX11_notes 37 = .ok (.iaload, 1) := by decide +kernel
theorem dX11_notes_38 : decode cX11_notes 38 = .ok (.imul, 1) := by decide +kernel
theorem dX11_notes_39 : decode cX11_notes 39 = .ok (.iconst 1, 1) := by decide +kernel
theorem dX11_notes_40 : decode cX11_notes 40 = .ok (.iadd, 1) := by decide +kernel
theorem dX11_notes_41 : decode cX11_notes 41 = .ok (.iload_n 2, 1) := by decide +kernel
theorem dX11_notes_42 : decode cX11_notes 42 = .ok (.iastore, 1) := by decide +kernel
theorem dX11_notes_43 : decode cX11_notes 43 = .ok (.aload_n 0, 1) := by decide +kernel
theorem dX11_notes_44 : decode cX11_notes 44 = .ok (.getfield 23, 3) := by decide +kernel
theorem dX11_notes_47 : decode cX11_notes 47 = .ok (.iconst 3, 1) := by decide +kernel
theorem dX11_notes_48 : decode cX11_notes 48 = .ok (.aload_n 0, 1) := by decide +kernel
theorem dX11_notes_49 : decode cX11_notes 49 = .ok (.getfield 7, 3) := by decide +kernel
theorem dX11_notes_52 : decode cX11_notes 52 = .ok (.iconst 0, 1) := by decide +kernel
theorem dX11_notes_53 : decode cX11_notes 53 = .ok (.iaload, 1) := by decide +kernel
theorem dX11_notes_54 : decode cX11_notes 54 = .ok (.imul, 1) := by decide +kernel
theorem dX11_notes_55 : decode cX11_notes 55 = .ok (.iconst 2, 1) := by decide +kernel
theorem dX11_notes_56 : decode cX11_notes 56 = .ok (.iadd, 1) := by decide +kernel
theorem dX11_notes_57 : decode cX11_notes 57 = .ok (.iload_n 3, 1) := by decide +kernel
theorem dX11_notes_58 : decode cX11_notes 58 = .ok (.iastore, 1) := by decide +kernel
theorem dX11_notes_59 : decode cX11_notes 59 = .ok (.return_, 1) := by decide +kernel
theorem dX11_changeOf_0 : decode cX11_changeOf 0 = .ok (.iload_n 1, 1) := by decide +kernel
theorem dX11_changeOf_1 : decode cX11_changeOf 1 = .ok (.i2l, 1) := by decide +kernel
theorem dX11_changeOf_2 : decode cX11_changeOf 2 = .ok (.lconst 1, 1) := by decide +kernel
theorem dX11_changeOf_3 : decode cX11_changeOf 3 = .ok (.aload_n 0, 1) := by decide +kernel
theorem dX11_changeOf_4 : decode cX11_changeOf 4 = .ok (.getfield 7, 3) := by decide +kernel
theorem dX11_changeOf_7 : decode cX11_changeOf 7 = .ok (.iconst 0, 1) := by decide +kernel
theorem dX11_changeOf_8 : decode cX11_changeOf 8 = .ok (.iaload, 1) := by decide +kernel
theorem dX11_changeOf_9 : decode cX11_changeOf 9 = .ok (.i2l, 1) := by decide +kernel
theorem dX11_changeOf_10 : decode cX11_changeOf 10 = .ok (.invokestatic 45, 3) := by decide +kernel
theorem dX11_changeOf_13 : decode cX11_changeOf 13 = .ok (.ifCond .eq 22, 3) := by decide +kernel
theorem dX11_changeOf_16 : decode cX11_changeOf 16 = .ok (.iload_n 1, 1) := by decide +kernel
theorem dX11_changeOf_17 : decode cX11_changeOf 17 = .ok (.sipush 4000, 3) := by decide +kernel
theorem dX11_changeOf_20 : decode cX11_changeOf 20 = .ok (.if_icmp .ge 15, 3) := by decide +kernel
theorem dX11_changeOf_23 : decode cX11_changeOf 23 = .ok (.iload_n 2, 1) := by decide +kernel
theorem dX11_changeOf_24 : decode cX11_changeOf 24 = .ok (.i2l, 1) := by decide +kernel
theorem dX11_changeOf_25 : decode cX11_changeOf 25 = .ok (.lconst 0, 1) := by decide +kernel
theorem dX11_changeOf_26 : decode cX11_changeOf 26 = .ok (.ldc2_w 77, 3) := by decide +kernel
theorem dX11_changeOf_29 : decode cX11_changeOf 29 = .ok (.invokestatic 45, 3) := by decide +kernel
theorem dX11_changeOf_32 : decode cX11_changeOf 32 = .ok (.ifCond .ne 5, 3) := by decide +kernel
theorem dX11_changeOf_35 : decode cX11_changeOf 35 = .ok (.iconst (-1), 1) := by decide +kernel
theorem dX11_changeOf_36 : decode cX11_changeOf 36 = .ok (.ireturn, 1) := by decide +kernel
theorem dX11_changeOf_37 : decode cX11_changeOf 37 = .ok (.iload_n 1, 1) := by decide +kernel
theorem dX11_changeOf_38 : decode cX11_changeOf 38 = .ok (.iconst 1, 1) := by decide +kernel
theorem dX11_changeOf_39 : decode cX11_changeOf 39 = .ok (.if_icmp .ne 15, 3) := by decide +kernel
theorem dX11_changeOf_42 : decode cX11_changeOf 42 = .ok (.iload_n 2, 1) := by decide +kernel
theorem dX11_changeOf_43 : decode cX11_changeOf 43 = .ok (.ifCond .ne 7, 3) := by decide +kernel
theorem dX11_changeOf_46 : decode cX11_changeOf 46 = .ok (.iconst 0, 1) := by decide +kernel
theorem dX11_changeOf_47 : decode cX11_changeOf 47 = .ok (.goto 17, 3) := by decide +kernel
theorem dX11_changeOf_50 : decode cX11_changeOf 50 = .ok (.iconst (-1), 1) := by decide +kernel
theorem dX11_changeOf_51 : decode cX11_changeOf 51 = .ok (.goto 13, 3) := by decide +kernel
theorem dX11_changeOf_54 : decode cX11_changeOf 54 = .ok (.aload_n 0, 1) := by decide +kernel
theorem dX11_changeOf_55 : decode cX11_changeOf 55 = .ok (.getfield 23, 3) := by decide +kernel
theorem dX11_changeOf_58 : decode cX11_changeOf 58 = .ok (.iconst 3, 1) := by decide +kernel
theorem dX11_changeOf_59 : decode cX11_changeOf 59 = .ok (.iload_n 1, 1) := by decide +kernel
theorem dX11_changeOf_60 : decode cX11_changeOf 60 = .ok (.imul, 1) := by decide +kernel
theorem dX11_changeOf_61 : decode cX11_changeOf 61 = .ok (.iload_n 2, 1) := by decide +kernel
theorem dX11_changeOf_62 : decode cX11_changeOf 62 = .ok (.iadd, 1) := by decide +kernel
theorem dX11_changeOf_63 : decode cX11_changeOf 63 = .ok (.iaload, 1) := by decide +kernel
theorem dX11_changeOf_64 : decode cX11_changeOf 64 = .ok (.ireturn, 1) := by decide +kernel
theorem dX11_splits_0 : decode cX11_splits 0 = .ok (.aload_n 0, 1) := by decide +kernel
theorem dX11_splits_1 : decode cX11_splits 1 = .ok (.getfield 7, 3) := by decide +kernel
theorem dX11_splits_4 : decode cX11_splits 4 = .ok (.iconst 1, 1) := by decide +kernel
theorem dX11_splits_5 : decode cX11_splits 5 = .ok (.iaload, 1) := by decide +kernel
theorem dX11_splits_6 : decode cX11_splits 6 = .ok (.istore_n 3, 1) := by decide +kernel
theorem dX11_splits_7 : decode cX11_splits 7 = .ok (.iload_n 3, 1) := by decide +kernel
theorem dX11_splits_8 : decode cX11_splits 8 = .ok (.iload_n 1, 1) := by decide +kernel
theorem dX11_splits_9 : decode cX11_splits 9 = .ok (.iconst 1, 1) := by decide +kernel
theorem dX11_splits_10 : decode cX11_splits 10 = .ok (.iadd, 1) := by decide +kernel
theorem dX11_splits_11 : decode cX11_splits 11 = .ok (.if_icmp .le 69, 3) := by decide +kernel
theorem dX11_splits_14 : decode cX11_splits 14 = .ok (.aload_n 0, 1) := by decide +kernel
theorem dX11_splits_15 : decode cX11_splits 15 = .ok (.getfield 7, 3) := by decide +kernel
theorem dX11_splits_18 : decode cX11_splits 18 = .ok (.bipush 10, 2) := by decide +kernel
theorem dX11_splits_20 : decode cX11_splits 20 = .ok (.iload_n 3, 1) := by decide +kernel
theorem dX11_splits_21 : decode cX11_splits 21 = .ok (.iadd, 1) := by decide +kernel
theorem dX11_splits_22 : decode cX11_splits 22 = .ok (.aload_n 0, 1) := by decide +kernel
theorem dX11_splits_23 : decode cX11_splits 23 = .ok (.getfield 7, 3) := by decide +kernel
theorem dX11_splits_26 : decode cX11_splits 26 = .ok (.bipush 10, 2) := by decide +kernel
theorem dX11_splits_28 : decode cX11_splits 28 = .ok (.iload_n 3, 1) := by decide +kernel
theorem dX11_splits_29 : decode cX11_splits 29 = .ok (.iadd, 1) := by decide +kernel
theorem dX11_splits_30 : decode cX11_splits 30 = .ok (.iconst 1, 1) := by decide +kernel
theorem dX11_splits_31 : decode cX11_splits 31 = .ok (.isub, 1) := by decide +kernel
theorem dX11_splits_32 : decode cX11_splits 32 = .ok (.iaload, 1) := by decide +kernel
theorem dX11_splits_33 : decode cX11_splits 33 = .ok (.iastore, 1) := by decide +kernel
theorem dX11_splits_34 : decode cX11_splits 34 = .ok (.aload_n 0, 1) := by decide +kernel
theorem dX11_splits_35 : decode cX11_splits 35 = .ok (.getfield 7, 3) := by decide +kernel
theorem dX11_splits_38 : decode cX11_splits 38 = .ok (.bipush 42, 2) := by decide +kernel
theorem dX11_splits_40 : decode cX11_splits 40 = .ok (.iload_n 3, 1) := by decide +kernel
theorem dX11_splits_41 : decode cX11_splits 41 = .ok (.iadd, 1) := by decide +kernel
theorem dX11_splits_42 : decode cX11_splits 42 = .ok (.aload_n 0, 1) := by decide +kernel
theorem dX11_splits_43 : decode cX11_splits 43 = .ok (.getfield 7, 3) := by decide +kernel
theorem dX11_splits_46 : decode cX11_splits 46 = .ok (.bipush 42, 2) := by decide +kernel
theorem dX11_splits_48 : decode cX11_splits 48 = .ok (.iload_n 3, 1) := by decide +kernel
theorem dX11_splits_49 : decode cX11_splits 49 = .ok (.iadd, 1) := by decide +kernel
theorem dX11_splits_50 : decode cX11_splits 50 = .ok (.iconst 1, 1) := by decide +kernel
theorem dX11_splits_51 : decode cX11_splits 51 = .ok (.isub, 1) := by decide +kernel
theorem dX11_splits_52 : decode cX11_splits 52 = .ok (.iaload, 1) := by decide +kernel
theorem dX11_splits_53 : decode cX11_splits 53 = .ok (.iastore, 1) := by decide +kernel
theorem dX11_splits_54 : decode cX11_splits 54 = .ok (.aload_n 0, 1) := by decide +kernel
theorem dX11_splits_55 : decode cX11_splits 55 = .ok (.getfield 7, 3) := by decide +kernel
theorem dX11_splits_58 : decode cX11_splits 58 = .ok (.bipush 74, 2) := by decide +kernel
theorem dX11_splits_60 : decode cX11_splits 60 = .ok (.iload_n 3, 1) := by decide +kernel
theorem dX11_splits_61 : decode cX11_splits 61 = .ok (.iadd, 1) := by decide +kernel
theorem dX11_splits_62 : decode cX11_splits 62 = .ok (.aload_n 0, 1) := by decide +kernel
theorem dX11_splits_63 : decode cX11_splits 63 = .ok (.getfield 7, 3) := by decide +kernel
theorem dX11_splits_66 : decode cX11_splits 66 = .ok (.bipush 74, 2) := by decide +kernel
theorem dX11_splits_68 : decode cX11_splits 68 = .ok (.iload_n 3, 1) := by decide +kernel
theorem dX11_splits_69 : decode cX11_splits 69 = .ok (.iadd, 1) := by decide +kernel
theorem dX11_splits_70 : decode cX11_splits 70 = .ok (.iconst 1, 1) := by decide +kernel
theorem dX11_splits_71 : decode cX11_splits 71 = .ok (.isub, 1) := by decide +kernel
theorem dX11_splits_72 : decode cX11_splits 72 = .ok (.iaload, 1) := by decide +kernel
theorem dX11_splits_73 : decode cX11_splits 73 = .ok (.iastore, 1) := by decide +kernel
theorem dX11_splits_74 : decode cX11_splits 74 = .ok (.iinc 3 (-1), 3) := by decide +kernel
theorem dX11_splits_77 : decode cX11_splits 77 = .ok (.goto (-70), 3) := by decide +kernel
theorem dX11_splits_80 : decode cX11_splits 80 = .ok (.aload_n 0, 1) := by decide +kernel
theorem dX11_splits_81 : decode cX11_splits 81 = .ok (.getfield 7, 3) := by decide +kernel
theorem dX11_splits_84 : decode cX11_splits 84 = .ok (.iconst 0, 1) := by decide +kernel
theorem dX11_splits_85 : decode cX11_splits 85 = .ok (.dup2, 1) := by decide +kernel
theorem dX11_splits_86 : decode cX11_splits 86 = .ok (.iaload, 1) := by decide +kernel
theorem dX11_splits_87 : decode cX11_splits 87 = .ok (.iconst 1, 1) := by decide +kernel
theorem dX11_splits_88 : decode cX11_splits 88 = .ok (.iadd, 1) := by decide +kernel
theorem dX11_splits_89 : decode cX11_splits 89 = .ok (.iastore, 1) := by decide +kernel
theorem dX11_splits_90 : decode cX11_splits 90 = .ok (.aload_n 0, 1) := by decide +kernel
theorem dX11_splits_91 : decode cX11_splits 91 = .ok (.getfield 7, 3) := by decide +kernel
theorem dX11_splits_94 : decode cX11_splits 94 = .ok (.bipush 10, 2) := by decide +kernel
theorem dX11_splits_96 : decode cX11_splits 96 = .ok (.iload_n 1, 1) := by decide +kernel
theorem dX11_splits_97 : decode cX11_splits 97 = .ok (.iadd, 1) := by decide +kernel
theorem dX11_splits_98 : decode cX11_splits 98 = .ok (.iconst 1, 1) := by decide +kernel
theorem dX11_splits_99 : decode cX11_splits 99 = .ok (.iadd, 1) := by decide +kernel
theorem dX11_splits_100 : decode cX11_splits 100 = .ok (.iload_n 2, 1) := by decide +kernel
theorem dX11_splits_101 : decode cX11_splits 101 = .ok (.iastore, 1) := by decide +kernel
theorem dX11_splits_102 : decode cX11_splits 102 = .ok (.aload_n 0, 1) := by decide +kernel
theorem dX11_splits_103 : decode cX11_splits 103 = .ok (.getfield 7, 3) := by decide +kernel
theorem dX11_splits_106 : decode cX11_splits 106 = .ok (.bipush 42, 2) := by decide +kernel
theorem dX11_splits_108 : decode cX11_splits 108 = .ok (.iload_n 1, 1) := by decide +kernel
theorem dX11_splits_109 : decode cX11_splits 109 = .ok (.iadd, 1) := by decide +kernel
theorem dX11_splits_110 : decode cX11_splits 110 = .ok (.iconst 1, 1) := by decide +kernel
theorem dX11_splits_111 : decode cX11_splits 111 = .ok (.iadd, 1) := by decide +kernel
theorem dX11_splits_112 : decode cX11_splits 112 = .ok (.aload_n 0, 1) := by decide +kernel
theorem dX11_splits_113 : decode cX11_splits 113 = .ok (.getfield 7, 3) := by decide +kernel
theorem dX11_splits_116 : decode cX11_splits 116 = .ok (.bipush 42, 2) := by decide +kernel
theorem dX11_splits_118 : decode cX11_splits 118 = .ok (.iload_n 1, 1) := by decide +kernel
theorem dX11_splits_119 : decode cX11_splits 119 = .ok (.iadd, 1) := by decide +kernel
theorem dX11_splits_120 : decode cX11_splits 120 = .ok (.iaload, 1) := by decide +kernel
theorem dX11_splits_121 : decode cX11_splits 121 = .ok (.iastore, 1) := by decide +kernel
theorem dX11_splits_122 : decode cX11_splits 122 = .ok (.aload_n 0, 1) := by decide +kernel
theorem dX11_splits_123 : decode cX11_splits 123 = .ok (.getfield 7, 3) := by decide +kernel
theorem dX11_splits_126 : decode cX11_splits 126 = .ok (.bipush 74, 2) := by decide +kernel
theorem dX11_splits_128 : decode cX11_splits 128 = .ok (.iload_n 1, 1) := by decide +kernel
theorem dX11_splits_129 : decode cX11_splits 129 = .ok (.iadd, 1) := by decide +kernel
theorem dX11_splits_130 : decode cX11_splits 130 = .ok (.iconst 1, 1) := by decide +kernel
theorem dX11_splits_131 : decode cX11_splits 131 = .ok (.iadd, 1) := by decide +kernel
theorem dX11_splits_132 : decode cX11_splits 132 = .ok (.aload_n 0, 1) := by decide +kernel
theorem dX11_splits_133 : decode cX11_splits 133 = .ok (.getfield 7, 3) := by decide +kernel
theorem dX11_splits_136 : decode cX11_splits 136 = .ok (.iconst 0, 1) := by decide +kernel
theorem dX11_splits_137 : decode cX11_splits 137 = .ok (.iaload, 1) := by decide +kernel
theorem dX11_splits_138 : decode cX11_splits 138 = .ok (.iastore, 1) := by decide +kernel
theorem dX11_splits_139 : decode cX11_splits 139 = .ok (.aload_n 0, 1) := by decide +kernel
theorem dX11_splits_140 : decode cX11_splits 140 = .ok (.getfield 7, 3) := by decide +kernel
theorem dX11_splits_143 : decode cX11_splits 143 = .ok (.bipush 74, 2) := by decide +kernel
theorem dX11_splits_145 : decode cX11_splits 145 = .ok (.iload_n 1, 1) := by decide +kernel
theorem dX11_splits_146 : decode cX11_splits 146 = .ok (.iadd, 1) := by decide +kernel
theorem dX11_splits_147 : decode cX11_splits 147 = .ok (.aload_n 0, 1) := by decide +kernel
theorem dX11_splits_148 : decode cX11_splits 148 = .ok (.getfield 7, 3) := by decide +kernel
theorem dX11_splits_151 : decode cX11_splits 151 = .ok (.iconst 0, 1) := by decide +kernel
theorem dX11_splits_152 : decode cX11_splits 152 = .ok (.iaload, 1) := by decide +kernel
theorem dX11_splits_153 : decode cX11_splits 153 = .ok (.iastore, 1) := by decide +kernel
theorem dX11_splits_154 : decode cX11_splits 154 = .ok (.aload_n 0, 1) := by decide +kernel
theorem dX11_splits_155 : decode cX11_splits 155 = .ok (.getfield 7, 3) := by decide +kernel
theorem dX11_splits_158 : decode cX11_splits 158 = .ok (.iconst 1, 1) := by decide +kernel
theorem dX11_splits_159 : decode cX11_splits 159 = .ok (.dup2, 1) := by decide +kernel
theorem dX11_splits_160 : decode cX11_splits 160 = .ok (.iaload, 1) := by decide +kernel
theorem dX11_splits_161 : decode cX11_splits 161 = .ok (.iconst 1, 1) := by decide +kernel
theorem dX11_splits_162 : decode cX11_splits 162 = .ok (.iadd, 1) := by decide +kernel
theorem dX11_splits_163 : decode cX11_splits 163 = .ok (.iastore, 1) := by decide +kernel
theorem dX11_splits_164 : decode cX11_splits 164 = .ok (.return_, 1) := by decide +kernel
theorem dX11_canSplit_0 : decode cX11_canSplit 0 = .ok (.iload_n 1, 1) := by decide +kernel
theorem dX11_canSplit_1 : decode cX11_canSplit 1 = .ok (.iconst (-1), 1) := by decide +kernel
theorem dX11_canSplit_2 : decode cX11_canSplit 2 = .ok (.if_icmp .eq 55, 3) := by decide +kernel
theorem dX11_canSplit_5 : decode cX11_canSplit 5 = .ok (.aload_n 0, 1) := by decide +kernel
theorem dX11_canSplit_6 : decode cX11_canSplit 6 = .ok (.getfield 7, 3) := by decide +kernel
theorem dX11_canSplit_9 : decode cX11_canSplit 9 = .ok (.iconst 1, 1) := by decide +kernel
theorem dX11_canSplit_10 : decode cX11_canSplit 10 = .ok (.iaload, 1) := by decide +kernel
theorem dX11_canSplit_11 : decode cX11_canSplit 11 = .ok (.bipush 32, 2) := by decide +kernel
theorem dX11_canSplit_13 : decode cX11_canSplit 13 = .ok (.if_icmp .ge 44, 3) := by decide +kernel
theorem dX11_canSplit_16 : decode cX11_canSplit 16 = .ok (.aload_n 0, 1) := by decide +kernel
theorem dX11_canSplit_17 : decode cX11_canSplit 17 = .ok (.iload_n 1, 1) := by decide +kernel
theorem dX11_canSplit_18 : decode cX11_canSplit 18 = .ok (.invokevirtual 79, 3) := by decide +kernel
theorem dX11_canSplit_21 : decode cX11_canSplit 21 = .ok (.iconst (-1), 1) := by decide +kernel
theorem dX11_canSplit_22 : decode cX11_canSplit 22 = .ok (.if_icmp .ne 35, 3) := by decide +kernel
theorem dX11_canSplit_25 : decode cX11_canSplit 25 = .ok (.iload_n 2, 1) := by decide +kernel
theorem dX11_canSplit_26 : decode cX11_canSplit 26 = .ok (.i2l, 1) := by decide +kernel
theorem dX11_canSplit_27 : decode cX11_canSplit 27 = .ok (.aload_n 0, 1) := by decide +kernel
theorem dX11_canSplit_28 : decode cX11_canSplit 28 = .ok (.getfield 7, 3) := by decide +kernel
theorem dX11_canSplit_31 : decode cX11_canSplit 31 = .ok (.bipush 10, 2) := by decide +kernel
theorem dX11_canSplit_33 : decode cX11_canSplit 33 = .ok (.iload_n 1, 1) := by decide +kernel
theorem dX11_canSplit_34 : decode cX11_canSplit 34 = .ok (.iadd, 1) := by decide +kernel
theorem dX11_canSplit_35 : decode cX11_canSplit 35 = .ok (.iaload, 1) := by decide +kernel
theorem dX11_canSplit_36 : decode cX11_canSplit 36 = .ok (.iconst 1, 1) := by decide +kernel
theorem dX11_canSplit_37 : decode cX11_canSplit 37 = .ok (.iadd, 1) := by decide +kernel
theorem dX11_canSplit_38 : decode cX11_canSplit 38 = .ok (.i2l, 1) := by decide +kernel
theorem dX11_canSplit_39 : decode cX11_canSplit 39 = .ok (.aload_n 0, 1) := by decide +kernel
theorem dX11_canSplit_40 : decode cX11_canSplit 40 = .ok (.iload_n 1, 1) := by decide +kernel
theorem dX11_canSplit_41 : decode cX11_canSplit 41 = .ok (.invokevirtual 70, 3) := by decide +kernel
theorem dX11_canSplit_44 : decode cX11_canSplit 44 = .ok (.iconst 1, 1) := by decide +kernel
theorem dX11_canSplit_45 : decode cX11_canSplit 45 = .ok (.isub, 1) := by decide +kernel
theorem dX11_canSplit_46 : decode cX11_canSplit 46 = .ok (.i2l, 1) := by decide +kernel
theorem dX11_canSplit_47 : decode cX11_canSplit 47 = .ok (.invokestatic 45, 3) := by decide +kernel
theorem dX11_canSplit_50 : decode cX11_canSplit 50 = .ok (.ifCond .eq 7, 3) := by decide +kernel
theorem dX11_canSplit_53 : decode cX11_canSplit 53 = .ok (.iconst 1, 1) := by decide +kernel
theorem dX11_canSplit_54 : decode cX11_canSplit 54 = .ok (.goto 4, 3) := by decide +kernel
theorem dX11_canSplit_57 : decode cX11_canSplit 57 = .ok (.iconst 0, 1) := by decide +kernel
theorem dX11_canSplit_58 : decode cX11_canSplit 58 = .ok (.ireturn, 1) := by decide +kernel
theorem dX11_splitAt_0 : decode cX11_splitAt 0 = .ok (.aload_n 0, 1) := by decide +kernel
theorem dX11_splitAt_1 : decode cX11_splitAt 1 = .ok (.iload_n 1, 1) := by decide +kernel
theorem dX11_splitAt_2 : decode cX11_splitAt 2 = .ok (.iload_n 2, 1) := by decide +kernel
theorem dX11_splitAt_3 : decode cX11_splitAt 3 = .ok (.invokevirtual 82, 3) := by decide +kernel
theorem dX11_splitAt_6 : decode cX11_splitAt 6 = .ok (.ifCond .ne 5, 3) := by decide +kernel
theorem dX11_splitAt_9 : decode cX11_splitAt 9 = .ok (.iconst (-1), 1) := by decide +kernel
theorem dX11_splitAt_10 : decode cX11_splitAt 10 = .ok (.ireturn, 1) := by decide +kernel
theorem dX11_splitAt_11 : decode cX11_splitAt 11 = .ok (.aload_n 0, 1) := by decide +kernel
theorem dX11_splitAt_12 : decode cX11_splitAt 12 = .ok (.invokevirtual 86, 3) := by decide +kernel
theorem dX11_splitAt_15 : decode cX11_splitAt 15 = .ok (.aload_n 0, 1) := by decide +kernel
theorem dX11_splitAt_16 : decode cX11_splitAt 16 = .ok (.iload_n 1, 1) := by decide +kernel
theorem dX11_splitAt_17 : decode cX11_splitAt 17 = .ok (.iload_n 2, 1) := by decide +kernel
theorem dX11_splitAt_18 : decode cX11_splitAt 18 = .ok (.invokevirtual 89, 3) := by decide +kernel
theorem dX11_splitAt_21 : decode cX11_splitAt 21 = .ok (.aload_n 0, 1) := by decide +kernel
theorem dX11_splitAt_22 : decode cX11_splitAt 22 = .ok (.iconst 1, 1) := by decide +kernel
theorem dX11_splitAt_23 : decode cX11_splitAt 23 = .ok (.aload_n 0, 1) := by decide +kernel
theorem dX11_splitAt_24 : decode cX11_splitAt 24 = .ok (.getfield 7, 3) := by decide +kernel
theorem dX11_splitAt_27 : decode cX11_splitAt 27 = .ok (.bipush 10, 2) := by decide +kernel
theorem dX11_splitAt_29 : decode cX11_splitAt 29 = .ok (.iload_n 1, 1) := by decide +kernel
theorem dX11_splitAt_30 : decode cX11_splitAt 30 = .ok (.iadd, 1) := by decide +kernel
theorem dX11_splitAt_31 : decode cX11_splitAt 31 = .ok (.iaload, 1) := by decide +kernel
theorem dX11_splitAt_32 : decode cX11_splitAt 32 = .ok (.aload_n 0, 1) := by decide +kernel
theorem dX11_splitAt_33 : decode cX11_splitAt 33 = .ok (.getfield 7, 3) := by decide +kernel
theorem dX11_splitAt_36 : decode cX11_splitAt 36 = .ok (.bipush 42, 2) := by decide +kernel
theorem dX11_splitAt_38 : decode cX11_splitAt 38 = .ok (.iload_n 1, 1) := by decide +kernel
theorem dX11_splitAt_39 : decode cX11_splitAt 39 = .ok (.iadd, 1) := by decide +kernel
theorem dX11_splitAt_40 : decode cX11_splitAt 40 = .ok (.iaload, 1) := by decide +kernel
theorem dX11_splitAt_41 : decode cX11_splitAt 41 = .ok (.invokevirtual 93, 3) := by decide +kernel
theorem dX11_splitAt_44 : decode cX11_splitAt 44 = .ok (.aload_n 0, 1) := by decide +kernel
theorem dX11_splitAt_45 : decode cX11_splitAt 45 = .ok (.bipush 6, 2) := by decide +kernel
theorem dX11_splitAt_47 : decode cX11_splitAt 47 = .ok (.iconst 1, 1) := by decide +kernel
theorem dX11_splitAt_48 : decode cX11_splitAt 48 = .ok (.invokevirtual 97, 3) := by decide +kernel
theorem dX11_splitAt_51 : decode cX11_splitAt 51 = .ok (.iload_n 3, 1) := by decide +kernel
theorem dX11_splitAt_52 : decode cX11_splitAt 52 = .ok (.iconst (-1), 1) := by decide +kernel
theorem dX11_splitAt_53 : decode cX11_splitAt 53 = .ok (.if_icmp .ne 12, 3) := by decide +kernel
theorem dX11_splitAt_56 : decode cX11_splitAt 56 = .ok (.aload_n 0, 1) := by decide +kernel
theorem dX11_splitAt_57 : decode cX11_splitAt 57 = .ok (.getfield 7, 3) := by decide +kernel
theorem dX11_splitAt_60 : decode cX11_splitAt 60 = .ok (.iconst 0, 1) := by decide +kernel
theorem dX11_splitAt_61 : decode cX11_splitAt 61 = .ok (.iaload, 1) := by decide +kernel
theorem dX11_splitAt_62 : decode cX11_splitAt 62 = .ok (.goto 4, 3) := by decide +kernel
theorem dX11_splitAt_65 : decode cX11_splitAt 65 = .ok (.iload_n 3, 1) := by decide +kernel
theorem dX11_splitAt_66 : decode cX11_splitAt 66 = .ok (.ireturn, 1) := by decide +kernel
theorem dX11_split_0 : decode cX11_split 0 = .ok (.aload_n 0, 1) := by decide +kernel
theorem dX11_split_1 : decode cX11_split 1 = .ok (.aload_n 0, 1) := by decide +kernel
theorem dX11_split_2 : decode cX11_split 2 = .ok (.iload_n 1, 1) := by decide +kernel
theorem dX11_split_3 : decode cX11_split 3 = .ok (.invokevirtual 100, 3) := by decide +kernel
theorem dX11_split_6 : decode cX11_split 6 = .ok (.iload_n 2, 1) := by decide +kernel
theorem dX11_split_7 : decode cX11_split 7 = .ok (.iconst (-1), 1) := by decide +kernel
theorem dX11_split_8 : decode cX11_split 8 = .ok (.invokevirtual 103, 3) := by decide +kernel
theorem dX11_split_11 : decode cX11_split 11 = .ok (.ireturn, 1) := by decide +kernel
theorem dX11_middle_0 : decode cX11_middle 0 = .ok (.aload_n 0, 1) := by decide +kernel
theorem dX11_middle_1 : decode cX11_middle 1 = .ok (.iload_n 1, 1) := by decide +kernel
theorem dX11_middle_2 : decode cX11_middle 2 = .ok (.invokevirtual 100, 3) := by decide +kernel
theorem dX11_middle_5 : decode cX11_middle 5 = .ok (.istore_n 2, 1) := by decide +kernel
theorem dX11_middle_6 : decode cX11_middle 6 = .ok (.iload_n 2, 1) := by decide +kernel
theorem dX11_middle_7 : decode cX11_middle 7 = .ok (.iconst (-1), 1) := by decide +kernel
theorem dX11_middle_8 : decode cX11_middle 8 = .ok (.if_icmp .ne 7, 3) := by decide +kernel
theorem dX11_middle_11 : decode cX11_middle 11 = .ok (.iconst (-1), 1) := by decide +kernel
theorem dX11_middle_12 : decode cX11_middle 12 = .ok (.goto 8, 3) := by decide +kernel
theorem dX11_middle_15 : decode cX11_middle 15 = .ok (.aload_n 0, 1) := by decide +kernel
theorem dX11_middle_16 : decode cX11_middle 16 = .ok (.iload_n 2, 1) := by decide +kernel
theorem dX11_middle_17 : decode cX11_middle 17 = .ok (.invokevirtual 107, 3) := by decide +kernel
theorem dX11_middle_20 : decode cX11_middle 20 = .ok (.istore_n 3, 1) := by decide +kernel
theorem dX11_middle_21 : decode cX11_middle 21 = .ok (.iload_n 3, 1) := by decide +kernel
theorem dX11_middle_22 : decode cX11_middle 22 = .ok (.iconst (-1), 1) := by decide +kernel
theorem dX11_middle_23 : decode cX11_middle 23 = .ok (.if_icmp .ne 7, 3) := by decide +kernel
theorem dX11_middle_26 : decode cX11_middle 26 = .ok (.iconst (-1), 1) := by decide +kernel
theorem dX11_middle_27 : decode cX11_middle 27 = .ok (.goto 10, 3) := by decide +kernel
theorem dX11_middle_30 : decode cX11_middle 30 = .ok (.aload_n 0, 1) := by decide +kernel
theorem dX11_middle_31 : decode cX11_middle 31 = .ok (.iload_n 2, 1) := by decide +kernel
theorem dX11_middle_32 : decode cX11_middle 32 = .ok (.iload_n 3, 1) := by decide +kernel
theorem dX11_middle_33 : decode cX11_middle 33 = .ok (.iload_n 3, 1) := by decide +kernel
theorem dX11_middle_34 : decode cX11_middle 34 = .ok (.invokevirtual 103, 3) := by decide +kernel
theorem dX11_middle_37 : decode cX11_middle 37 = .ok (.ireturn, 1) := by decide +kernel
theorem dX11_join_0 : decode cX11_join 0 = .ok (.aload_n 0, 1) := by decide +kernel
theorem dX11_join_1 : decode cX11_join 1 = .ok (.iload_n 1, 1) := by decide +kernel
theorem dX11_join_2 : decode cX11_join 2 = .ok (.invokevirtual 100, 3) := by decide +kernel
theorem dX11_join_5 : decode cX11_join 5 = .ok (.istore_n 2, 1) := by decide +kernel
theorem dX11_join_6 : decode cX11_join 6 = .ok (.iload_n 2, 1) := by decide +kernel
theorem dX11_join_7 : decode cX11_join 7 = .ok (.iconst (-1), 1) := by decide +kernel
theorem dX11_join_8 : decode cX11_join 8 = .ok (.if_icmp .eq 58, 3) := by decide +kernel
theorem dX11_join_11 : decode cX11_join 11 = .ok (.iload_n 2, 1) := by decide +kernel
theorem dX11_join_12 : decode cX11_join 12 = .ok (.iconst 1, 1) := by decide +kernel
theorem dX11_join_13 : decode cX11_join 13 = .ok (.iadd, 1) := by decide +kernel
theorem dX11_join_14 : decode cX11_join 14 = .ok (.aload_n 0, 1) := by decide +kernel
theorem dX11_join_15 : decode cX11_join 15 = .ok (.getfield 7, 3) := by decide +kernel
theorem dX11_join_18 : decode cX11_join 18 = .ok (.iconst 1, 1) := by decide +kernel
theorem dX11_join_19 : decode cX11_join 19 = .ok (.iaload, 1) := by decide +kernel
theorem dX11_join_20 : decode cX11_join 20 = .ok (.if_icmp .eq 46, 3) := by decide +kernel
theorem dX11_join_23 : decode cX11_join 23 = .ok (.aload_n 0, 1) := by decide +kernel
theorem dX11_join_24 : decode cX11_join 24 = .ok (.getfield 7, 3) := by decide +kernel
theorem dX11_join_27 : decode cX11_join 27 = .ok (.bipush 42, 2) := by decide +kernel
theorem dX11_join_29 : decode cX11_join 29 = .ok (.iload_n 2, 1) := by decide +kernel
theorem dX11_join_30 : decode cX11_join 30 = .ok (.iadd, 1) := by decide +kernel
theorem dX11_join_31 : decode cX11_join 31 = .ok (.iaload, 1) := by decide +kernel
theorem dX11_join_32 : decode cX11_join 32 = .ok (.aload_n 0, 1) := by decide +kernel
theorem dX11_join_33 : decode cX11_join 33 = .ok (.getfield 7, 3) := by decide +kernel
theorem dX11_join_36 : decode cX11_join 36 = .ok (.bipush 42, 2) := by decide +kernel
theorem dX11_join_38 : decode cX11_join 38 = .ok (.iload_n 2, 1) := by decide +kernel
theorem dX11_join_39 : decode cX11_join 39 = .ok (.iadd, 1) := by decide +kernel
theorem dX11_join_40 : decode cX11_join 40 = .ok (.iconst 1, 1) := by decide +kernel
theorem dX11_join_41 : decode cX11_join 41 = .ok (.iadd, 1) := by decide +kernel
theorem dX11_join_42 : decode cX11_join 42 = .ok (.iaload, 1) := by decide +kernel
theorem dX11_join_43 : decode cX11_join 43 = .ok (.if_icmp .ne 23, 3) := by decide +kernel
theorem dX11_join_46 : decode cX11_join 46 = .ok (.aload_n 0, 1) := by decide +kernel
theorem dX11_join_47 : decode cX11_join 47 = .ok (.iload_n 2, 1) := by decide +kernel
theorem dX11_join_48 : decode cX11_join 48 = .ok (.invokevirtual 79, 3) := by decide +kernel
theorem dX11_join_51 : decode cX11_join 51 = .ok (.iconst (-1), 1) := by decide +kernel
theorem dX11_join_52 : decode cX11_join 52 = .ok (.if_icmp .ne 14, 3) := by decide +kernel
theorem dX11_join_55 : decode cX11_join 55 = .ok (.aload_n 0, 1) := by decide +kernel
theorem dX11_join_56 : decode cX11_join 56 = .ok (.iload_n 2, 1) := by decide +kernel
theorem dX11_join_57 : decode cX11_join 57 = .ok (.iconst 1, 1) := by decide +kernel
theorem dX11_join_58 : decode cX11_join 58 = .ok (.iadd, 1) := by decide +kernel
theorem dX11_join_59 : decode cX11_join 59 = .ok (.invokevirtual 79, 3) := by decide +kernel
theorem dX11_join_62 : decode cX11_join 62 = .ok (.iconst (-1), 1) := by decide +kernel
theorem dX11_join_63 : decode cX11_join 63 = .ok (.if_icmp .eq 5, 3) := by decide +kernel
theorem dX11_join_66 : decode cX11_join 66 = .ok (.iconst (-1), 1) := by decide +kernel
theorem dX11_join_67 : decode cX11_join 67 = .ok (.ireturn, 1) := by decide +kernel
theorem dX11_join_68 : decode cX11_join 68 = .ok (.aload_n 0, 1) := by decide +kernel
theorem dX11_join_69 : decode cX11_join 69 = .ok (.invokevirtual 86, 3) := by decide +kernel
theorem dX11_join_72 : decode cX11_join 72 = .ok (.aload_n 0, 1) := by decide +kernel
theorem dX11_join_73 : decode cX11_join 73 = .ok (.getfield 7, 3) := by decide +kernel
theorem dX11_join_76 : decode cX11_join 76 = .ok (.iconst 0, 1) := by decide +kernel
theorem dX11_join_77 : decode cX11_join 77 = .ok (.dup2, 1) := by decide +kernel
theorem dX11_join_78 : decode cX11_join 78 = .ok (.iaload, 1) := by decide +kernel
theorem dX11_join_79 : decode cX11_join 79 = .ok (.iconst 1, 1) := by decide +kernel
theorem dX11_join_80 : decode cX11_join 80 = .ok (.iadd, 1) := by decide +kernel
theorem dX11_join_81 : decode cX11_join 81 = .ok (.iastore, 1) := by decide +kernel
theorem dX11_join_82 : decode cX11_join 82 = .ok (.aload_n 0, 1) := by decide +kernel
theorem dX11_join_83 : decode cX11_join 83 = .ok (.getfield 7, 3) := by decide +kernel
theorem dX11_join_86 : decode cX11_join 86 = .ok (.bipush 74, 2) := by decide +kernel
theorem dX11_join_88 : decode cX11_join 88 = .ok (.iload_n 2, 1) := by decide +kernel
theorem dX11_join_89 : decode cX11_join 89 = .ok (.iadd, 1) := by decide +kernel
theorem dX11_join_90 : decode cX11_join 90 = .ok (.aload_n 0, 1) := by decide +kernel
theorem dX11_join_91 : decode cX11_join 91 = .ok (.getfield 7, 3) := by decide +kernel
theorem dX11_join_94 : decode cX11_join 94 = .ok (.iconst 0, 1) := by decide +kernel
theorem dX11_join_95 : decode cX11_join 95 = .ok (.iaload, 1) := by decide +kernel
theorem dX11_join_96 : decode cX11_join 96 = .ok (.iastore, 1) := by decide +kernel
theorem dX11_join_97 : decode cX11_join 97 = .ok (.iload_n 2, 1) := by decide +kernel
theorem dX11_join_98 : decode cX11_join 98 = .ok (.iconst 1, 1) := by decide +kernel
theorem dX11_join_99 : decode cX11_join 99 = .ok (.iadd, 1) := by decide +kernel
theorem dX11_join_100 : decode cX11_join 100 = .ok (.istore_n 3, 1) := by decide +kernel
theorem dX11_join_101 : decode cX11_join 101 = .ok (.iload_n 3, 1) := by decide +kernel
theorem dX11_join_102 : decode cX11_join 102 = .ok (.iconst 1, 1) := by decide +kernel
theorem dX11_join_103 : decode cX11_join 103 = .ok (.iadd, 1) := by decide +kernel
theorem dX11_join_104 : decode cX11_join 104 = .ok (.aload_n 0, 1) := by decide +kernel
theorem dX11_join_105 : decode cX11_join 105 = .ok (.getfield 7, 3) := by decide +kernel
theorem dX11_join_108 : decode cX11_join 108 = .ok (.iconst 1, 1) := by decide +kernel
theorem dX11_join_109 : decode cX11_join 109 = .ok (.iaload, 1) := by decide +kernel
theorem dX11_join_110 : decode cX11_join 110 = .ok (.if_icmp .ge 69, 3) := by decide +kernel
theorem dX11_join_113 : decode cX11_join 113 = .ok (.aload_n 0, 1) := by decide +kernel
theorem dX11_join_114 : decode cX11_join 114 = .ok (.getfield 7, 3) := by decide +kernel
theorem dX11_join_117 : decode cX11_join 117 = .ok (.bipush 10, 2) := by decide +kernel
theorem dX11_join_119 : decode cX11_join 119 = .ok (.iload_n 3, 1) := by decide +kernel
theorem dX11_join_120 : decode cX11_join 120 = .ok (.iadd, 1) := by decide +kernel
theorem dX11_join_121 : decode cX11_join 121 = .ok (.aload_n 0, 1) := by decide +kernel
theorem dX11_join_122 : decode cX11_join 122 = .ok (.getfield 7, 3) := by decide +kernel
theorem dX11_join_125 : decode cX11_join 125 = .ok (.bipush 10, 2) := by decide +kernel
theorem dX11_join_127 : decode cX11_join 127 = .ok (.iload_n 3, 1) := by decide +kernel
theorem dX11_join_128 : decode cX11_join 128 = .ok (.iadd, 1) := by decide +kernel
theorem dX11_join_129 : decode cX11_join 129 = .ok (.iconst 1, 1) := by decide +kernel
theorem dX11_join_130 : decode cX11_join 130 = .ok (.iadd, 1) := by decide +kernel
theorem dX11_join_131 : decode cX11_join 131 = .ok (.iaload, 1) := by decide +kernel
theorem dX11_join_132 : decode cX11_join 132 = .ok (.iastore, 1) := by decide +kernel
theorem dX11_join_133 : decode cX11_join 133 = .ok (.aload_n 0, 1) := by decide +kernel
theorem dX11_join_134 : decode cX11_join 134 = .ok (.getfield 7, 3) := by decide +kernel
theorem dX11_join_137 : decode cX11_join 137 = .ok (.bipush 42, 2) := by decide +kernel
theorem dX11_join_139 : decode cX11_join 139 = .ok (.iload_n 3, 1) := by decide +kernel
theorem dX11_join_140 : decode cX11_join 140 = .ok (.iadd, 1) := by decide +kernel
theorem dX11_join_141 : decode cX11_join 141 = .ok (.aload_n 0, 1) := by decide +kernel
theorem dX11_join_142 : decode cX11_join 142 = .ok (.getfield 7, 3) := by decide +kernel
theorem dX11_join_145 : decode cX11_join 145 = .ok (.bipush 42, 2) := by decide +kernel
theorem dX11_join_147 : decode cX11_join 147 = .ok (.iload_n 3, 1) := by decide +kernel
theorem dX11_join_148 : decode cX11_join 148 = .ok (.iadd, 1) := by decide +kernel
theorem dX11_join_149 : decode cX11_join 149 = .ok (.iconst 1, 1) := by decide +kernel
theorem dX11_join_150 : decode cX11_join 150 = .ok (.iadd, 1) := by decide +kernel
theorem dX11_join_151 : decode cX11_join 151 = .ok (.iaload, 1) := by decide +kernel
theorem dX11_join_152 : decode cX11_join 152 = .ok (.iastore, 1) := by decide +kernel
theorem dX11_join_153 : decode cX11_join 153 = .ok (.aload_n 0, 1) := by decide +kernel
theorem dX11_join_154 : decode cX11_join 154 = .ok (.getfield 7, 3) := by decide +kernel
theorem dX11_join_157 : decode cX11_join 157 = .ok (.bipush 74, 2) := by decide +kernel
theorem dX11_join_159 : decode cX11_join 159 = .ok (.iload_n 3, 1) := by decide +kernel
theorem dX11_join_160 : decode cX11_join 160 = .ok (.iadd, 1) := by decide +kernel
theorem dX11_join_161 : decode cX11_join 161 = .ok (.aload_n 0, 1) := by decide +kernel
theorem dX11_join_162 : decode cX11_join 162 = .ok (.getfield 7, 3) := by decide +kernel
theorem dX11_join_165 : decode cX11_join 165 = .ok (.bipush 74, 2) := by decide +kernel
theorem dX11_join_167 : decode cX11_join 167 = .ok (.iload_n 3, 1) := by decide +kernel
theorem dX11_join_168 : decode cX11_join 168 = .ok (.iadd, 1) := by decide +kernel
theorem dX11_join_169 : decode cX11_join 169 = .ok (.iconst 1, 1) := by decide +kernel
theorem dX11_join_170 : decode cX11_join 170 = .ok (.iadd, 1) := by decide +kernel
theorem dX11_join_171 : decode cX11_join 171 = .ok (.iaload, 1) := by decide +kernel
theorem dX11_join_172 : decode cX11_join 172 = .ok (.iastore, 1) := by decide +kernel
theorem dX11_join_173 : decode cX11_join 173 = .ok (.iinc 3 1, 3) := by decide +kernel
theorem dX11_join_176 : decode cX11_join 176 = .ok (.goto (-75), 3) := by decide +kernel
theorem dX11_join_179 : decode cX11_join 179 = .ok (.aload_n 0, 1) := by decide +kernel
theorem dX11_join_180 : decode cX11_join 180 = .ok (.getfield 7, 3) := by decide +kernel
theorem dX11_join_183 : decode cX11_join 183 = .ok (.iconst 1, 1) := by decide +kernel
theorem dX11_join_184 : decode cX11_join 184 = .ok (.dup2, 1) := by decide +kernel
theorem dX11_join_185 : decode cX11_join 185 = .ok (.iaload, 1) := by decide +kernel
theorem dX11_join_186 : decode cX11_join 186 = .ok (.iconst 1, 1) := by decide +kernel
theorem dX11_join_187 : decode cX11_join 187 = .ok (.isub, 1) := by decide +kernel
theorem dX11_join_188 : decode cX11_join 188 = .ok (.iastore, 1) := by decide +kernel
theorem dX11_join_189 : decode cX11_join 189 = .ok (.aload_n 0, 1) := by decide +kernel
theorem dX11_join_190 : decode cX11_join 190 = .ok (.iconst 2, 1) := by decide +kernel
theorem dX11_join_191 : decode cX11_join 191 = .ok (.iload_n 1, 1) := by decide +kernel
theorem dX11_join_192 : decode cX11_join 192 = .ok (.aload_n 0, 1) := by decide +kernel
theorem dX11_join_193 : decode cX11_join 193 = .ok (.getfield 7, 3) := by decide +kernel
theorem dX11_join_196 : decode cX11_join 196 = .ok (.bipush 42, 2) := by decide +kernel
theorem dX11_join_198 : decode cX11_join 198 = .ok (.iload_n 2, 1) := by decide +kernel
theorem dX11_join_199 : decode cX11_join 199 = .ok (.iadd, 1) := by decide +kernel
theorem dX11_join_200 : decode cX11_join 200 = .ok (.iaload, 1) := by decide +kernel
theorem dX11_join_201 : decode cX11_join 201 = .ok (.invokevirtual 93, 3) := by decide +kernel
theorem dX11_join_204 : decode cX11_join 204 = .ok (.aload_n 0, 1) := by decide +kernel
theorem dX11_join_205 : decode cX11_join 205 = .ok (.bipush 7, 2) := by decide +kernel
theorem dX11_join_207 : decode cX11_join 207 = .ok (.iconst 1, 1) := by decide +kernel
theorem dX11_join_208 : decode cX11_join 208 = .ok (.invokevirtual 97, 3) := by decide +kernel
theorem dX11_join_211 : decode cX11_join 211 = .ok (.aload_n 0, 1) := by decide +kernel
theorem dX11_join_212 : decode cX11_join 212 = .ok (.getfield 7, 3) := by decide +kernel
theorem dX11_join_215 : decode cX11_join 215 = .ok (.iconst 0, 1) := by decide +kernel
theorem dX11_join_216 : decode cX11_join 216 = .ok (.iaload, 1) := by decide +kernel
theorem dX11_join_217 : decode cX11_join 217 = .ok (.ireturn, 1) := by decide +kernel
theorem dX11_acts_0 : decode cX11_acts 0 = .ok (.aload_n 0, 1) := by decide +kernel
theorem dX11_acts_1 : decode cX11_acts 1 = .ok (.getfield 110, 3) := by decide +kernel
theorem dX11_acts_4 : decode cX11_acts 4 = .ok (.ifCond .ne 11, 3) := by decide +kernel
theorem dX11_acts_7 : decode cX11_acts 7 = .ok (.aload_n 0, 1) := by decide +kernel
theorem dX11_acts_8 : decode cX11_acts 8 = .ok (.aload_n 0, 1) := by decide +kernel
theorem dX11_acts_9 : decode cX11_acts 9 = .ok (.getfield 7, 3) := by decide +kernel
theorem dX11_acts_12 : decode cX11_acts 12 = .ok (.invokevirtual 114, 3) := by decide +kernel
theorem dX11_acts_15 : decode cX11_acts 15 = .ok (.return_, 1) := by decide +kernel
theorem dX11_forgets_0 : decode cX11_forgets 0 = .ok (.aload_n 0, 1) := by decide +kernel
theorem dX11_forgets_1 : decode cX11_forgets 1 = .ok (.getfield 110, 3) := by decide +kernel
theorem dX11_forgets_4 : decode cX11_forgets 4 = .ok (.ifCond .ne 8, 3) := by decide +kernel
theorem dX11_forgets_7 : decode cX11_forgets 7 = .ok (.aload_n 0, 1) := by decide +kernel
theorem dX11_forgets_8 : decode cX11_forgets 8 = .ok (.iconst 0, 1) := by decide +kernel
theorem dX11_forgets_9 : decode cX11_forgets 9 = .ok (.putfield 51, 3) := by decide +kernel
theorem dX11_forgets_12 : decode cX11_forgets 12 = .ok (.return_, 1) := by decide +kernel
theorem dX11_clientAt_0 : decode cX11_clientAt 0 = .ok (.sipush 7106, 3) := by decide +kernel
theorem dX11_clientAt_3 : decode cX11_clientAt 3 = .ok (.bipush 98, 2) := by decide +kernel
theorem dX11_clientAt_5 : decode cX11_clientAt 5 = .ok (.iload_n 0, 1) := by decide +kernel
theorem dX11_clientAt_6 : decode cX11_clientAt 6 = .ok (.imul, 1) := by decide +kernel
theorem dX11_clientAt_7 : decode cX11_clientAt 7 = .ok (.iadd, 1) := by decide +kernel
theorem dX11_clientAt_8 : decode cX11_clientAt 8 = .ok (.ireturn, 1) := by decide +kernel
theorem dX11_fetches_0 : decode cX11_fetches 0 = .ok (.iload_n 1, 1) := by decide +kernel
theorem dX11_fetches_1 : decode cX11_fetches 1 = .ok (.invokestatic 118, 3) := by decide +kernel
theorem dX11_fetches_4 : decode cX11_fetches 4 = .ok (.istore_n 2, 1) := by decide +kernel
theorem dX11_fetches_5 : decode cX11_fetches 5 = .ok (.aload_n 0, 1) := by decide +kernel
theorem dX11_fetches_6 : decode cX11_fetches 6 = .ok (.getfield 7, 3) := by decide +kernel
theorem dX11_fetches_9 : decode cX11_fetches 9 = .ok (.iload_n 2, 1) := by decide +kernel
theorem dX11_fetches_10 : decode cX11_fetches 10 = .ok (.iconst 0, 1) := by decide +kernel
theorem dX11_fetches_11 : decode cX11_fetches 11 = .ok (.iadd, 1) := by decide +kernel
theorem dX11_fetches_12 : decode cX11_fetches 12 = .ok (.aload_n 0, 1) := by decide +kernel
theorem dX11_fetches_13 : decode cX11_fetches 13 = .ok (.getfield 7, 3) := by decide +kernel
theorem dX11_fetches_16 : decode cX11_fetches 16 = .ok (.iconst 0, 1) := by decide +kernel
theorem dX11_fetches_17 : decode cX11_fetches 17 = .ok (.iaload, 1) := by decide +kernel
theorem dX11_fetches_18 : decode cX11_fetches 18 = .ok (.iastore, 1) := by decide +kernel
theorem dX11_fetches_19 : decode cX11_fetches 19 = .ok (.aload_n 0, 1) := by decide +kernel
theorem dX11_fetches_20 : decode cX11_fetches 20 = .ok (.getfield 7, 3) := by decide +kernel
theorem dX11_fetches_23 : decode cX11_fetches 23 = .ok (.iload_n 2, 1) := by decide +kernel
theorem dX11_fetches_24 : decode cX11_fetches 24 = .ok (.iconst 1, 1) := by decide +kernel
theorem dX11_fetches_25 : decode cX11_fetches 25 = .ok (.iadd, 1) := by decide +kernel
theorem dX11_fetches_26 : decode cX11_fetches 26 = .ok (.aload_n 0, 1) := by decide +kernel
theorem dX11_fetches_27 : decode cX11_fetches 27 = .ok (.getfield 7, 3) := by decide +kernel
theorem dX11_fetches_30 : decode cX11_fetches 30 = .ok (.iconst 1, 1) := by decide +kernel
theorem dX11_fetches_31 : decode cX11_fetches 31 = .ok (.iaload, 1) := by decide +kernel
theorem dX11_fetches_32 : decode cX11_fetches 32 = .ok (.iastore, 1) := by decide +kernel
theorem dX11_fetches_33 : decode cX11_fetches 33 = .ok (.iconst 0, 1) := by decide +kernel
theorem dX11_fetches_34 : decode cX11_fetches 34 = .ok (.istore_n 3, 1) := by decide +kernel
theorem dX11_fetches_35 : decode cX11_fetches 35 = .ok (.iload_n 3, 1) := by decide +kernel
theorem dX11_fetches_36 : decode cX11_fetches 36 = .ok (.aload_n 0, 1) := by decide +kernel
theorem dX11_fetches_37 : decode cX11_fetches 37 = .ok (.getfield 7, 3) := by decide +kernel
theorem dX11_fetches_40 : decode cX11_fetches 40 = .ok (.iconst 1, 1) := by decide +kernel
theorem dX11_fetches_41 : decode cX11_fetches 41 = .ok (.iaload, 1) := by decide +kernel
theorem dX11_fetches_42 : decode cX11_fetches 42 = .ok (.if_icmp .ge 68, 3) := by decide +kernel
theorem dX11_fetches_45 : decode cX11_fetches 45 = .ok (.aload_n 0, 1) := by decide +kernel
theorem dX11_fetches_46 : decode cX11_fetches 46 = .ok (.getfield 7, 3) := by decide +kernel
theorem dX11_fetches_49 : decode cX11_fetches 49 = .ok (.iload_n 2, 1) := by decide +kernel
theorem dX11_fetches_50 : decode cX11_fetches 50 = .ok (.iconst 2, 1) := by decide +kernel
theorem dX11_fetches_51 : decode cX11_fetches 51 = .ok (.iadd, 1) := by decide +kernel
theorem dX11_fetches_52 : decode cX11_fetches 52 = .ok (.iload_n 3, 1) := by decide +kernel
theorem dX11_fetches_53 : decode cX11_fetches 53 = .ok (.iadd, 1) := by decide +kernel
theorem dX11_fetches_54 : decode cX11_fetches 54 = .ok (.aload_n 0, 1) := by decide +kernel
theorem dX11_fetches_55 : decode cX11_fetches 55 = .ok (.getfield 7, 3) := by decide +kernel
theorem dX11_fetches_58 : decode cX11_fetches 58 = .ok (.bipush 10, 2) := by decide +kernel
theorem dX11_fetches_60 : decode cX11_fetches 60 = .ok (.iload_n 3, 1) := by decide +kernel
theorem dX11_fetches_61 : decode cX11_fetches 61 = .ok (.iadd, 1) := by decide +kernel
theorem dX11_fetches_62 : decode cX11_fetches 62 = .ok (.iaload, 1) := by decide +kernel
theorem dX11_fetches_63 : decode cX11_fetches 63 = .ok (.iastore, 1) := by decide +kernel
theorem dX11_fetches_64 : decode cX11_fetches 64 = .ok (.aload_n 0, 1) := by decide +kernel
theorem dX11_fetches_65 : decode cX11_fetches 65 = .ok (.getfield 7, 3) := by decide +kernel
theorem dX11_fetches_68 : decode cX11_fetches 68 = .ok (.iload_n 2, 1) := by decide +kernel
theorem dX11_fetches_69 : decode cX11_fetches 69 = .ok (.bipush 34, 2) := by decide +kernel
theorem dX11_fetches_71 : decode cX11_fetches 71 = .ok (.iadd, 1) := by decide +kernel
theorem dX11_fetches_72 : decode cX11_fetches 72 = .ok (.iload_n 3, 1) := by decide +kernel
theorem dX11_fetches_73 : decode cX11_fetches 73 = .ok (.iadd, 1) := by decide +kernel
theorem dX11_fetches_74 : decode cX11_fetches 74 = .ok (.aload_n 0, 1) := by decide +kernel
theorem dX11_fetches_75 : decode cX11_fetches 75 = .ok (.getfield 7, 3) := by decide +kernel
theorem dX11_fetches_78 : decode cX11_fetches 78 = .ok (.bipush 42, 2) := by decide +kernel
theorem dX11_fetches_80 : decode cX11_fetches 80 = .ok (.iload_n 3, 1) := by decide +kernel
theorem dX11_fetches_81 : decode cX11_fetches 81 = .ok (.iadd, 1) := by decide +kernel
theorem dX11_fetches_82 : decode cX11_fetches 82 = .ok (.iaload, 1) := by decide +kernel
theorem dX11_fetches_83 : decode cX11_fetches 83 = .ok (.iastore, 1) := by decide +kernel
theorem dX11_fetches_84 : decode cX11_fetches 84 = .ok (.aload_n 0, 1) := by decide +kernel
theorem dX11_fetches_85 : decode cX11_fetches 85 = .ok (.getfield 7, 3) := by decide +kernel
theorem dX11_fetches_88 : decode cX11_fetches 88 = .ok (.iload_n 2, 1) := by decide +kernel
theorem dX11_fetches_89 : decode cX11_fetches 89 = .ok (.bipush 66, 2) := by decide +kernel
theorem dX11_fetches_91 : decode cX11_fetches 91 = .ok (.iadd, 1) := by decide +kernel
theorem dX11_fetches_92 : decode cX11_fetches 92 = .ok (.iload_n 3, 1) := by decide +kernel
theorem dX11_fetches_93 : decode cX11_fetches 93 = .ok (.iadd, 1) := by decide +kernel
theorem dX11_fetches_94 : decode cX11_fetches 94 = .ok (.aload_n 0, 1) := by decide +kernel
theorem dX11_fetches_95 : decode cX11_fetches 95 = .ok (.getfield 7, 3) := by decide +kernel
theorem dX11_fetches_98 : decode cX11_fetches 98 = .ok (.bipush 74, 2) := by decide +kernel
theorem dX11_fetches_100 : decode cX11_fetches 100 = .ok (.iload_n 3, 1) := by decide +kernel
theorem dX11_fetches_101 : decode cX11_fetches 101 = .ok (.iadd, 1) := by decide +kernel
theorem dX11_fetches_102 : decode cX11_fetches 102 = .ok (.iaload, 1) := by decide +kernel
theorem dX11_fetches_103 : decode cX11_fetches 103 = .ok (.iastore, 1) := by decide +kernel
theorem dX11_fetches_104 : decode cX11_fetches 104 = .ok (.iinc 3 1, 3) := by decide +kernel
theorem dX11_fetches_107 : decode cX11_fetches 107 = .ok (.goto (-72), 3) := by decide +kernel
theorem dX11_fetches_110 : decode cX11_fetches 110 = .ok (.aload_n 0, 1) := by decide +kernel
theorem dX11_fetches_111 : decode cX11_fetches 111 = .ok (.getfield 7, 3) := by decide +kernel
theorem dX11_fetches_114 : decode cX11_fetches 114 = .ok (.iconst 0, 1) := by decide +kernel
theorem dX11_fetches_115 : decode cX11_fetches 115 = .ok (.iaload, 1) := by decide +kernel
theorem dX11_fetches_116 : decode cX11_fetches 116 = .ok (.ireturn, 1) := by decide +kernel
theorem dX11_fetch_0 : decode cX11_fetch 0 = .ok (.iload_n 1, 1) := by decide +kernel
theorem dX11_fetch_1 : decode cX11_fetch 1 = .ok (.invokestatic 121, 3) := by decide +kernel
theorem dX11_fetch_4 : decode cX11_fetch 4 = .ok (.ifCond .ne 5, 3) := by decide +kernel
theorem dX11_fetch_7 : decode cX11_fetch 7 = .ok (.iconst (-1), 1) := by decide +kernel
theorem dX11_fetch_8 : decode cX11_fetch 8 = .ok (.ireturn, 1) := by decide +kernel
theorem dX11_fetch_9 : decode cX11_fetch 9 = .ok (.aload_n 0, 1) := by decide +kernel
theorem dX11_fetch_10 : decode cX11_fetch 10 = .ok (.invokevirtual 124, 3) := by decide +kernel
theorem dX11_fetch_13 : decode cX11_fetch 13 = .ok (.aload_n 0, 1) := by decide +kernel
theorem dX11_fetch_14 : decode cX11_fetch 14 = .ok (.iload_n 1, 1) := by decide +kernel
theorem dX11_fetch_15 : decode cX11_fetch 15 = .ok (.invokevirtual 127, 3) := by decide +kernel
theorem dX11_fetch_18 : decode cX11_fetch 18 = .ok (.ireturn, 1) := by decide +kernel
theorem dX11_answerBy_0 : decode cX11_answerBy 0 = .ok (.iload_n 1, 1) := by decide +kernel
theorem dX11_answerBy_1 : decode cX11_answerBy 1 = .ok (.invokestatic 118, 3) := by decide +kernel
theorem dX11_answerBy_4 : decode cX11_answerBy 4 = .ok (.istore_n 3, 1) := by decide +kernel
theorem dX11_answerBy_5 : decode cX11_answerBy 5 = .ok (.aload_n 0, 1) := by decide +kernel
theorem dX11_answerBy_6 : decode cX11_answerBy 6 = .ok (.getfield 7, 3) := by decide +kernel
theorem dX11_answerBy_9 : decode cX11_answerBy 9 = .ok (.iload_n 3, 1) := by decide +kernel
theorem dX11_answerBy_10 : decode cX11_answerBy 10 = .ok (.iconst 0, 1) := by decide +kernel
theorem dX11_answerBy_11 : decode cX11_answerBy 11 = .ok (.iadd, 1) := by decide +kernel
theorem dX11_answerBy_12 : decode cX11_answerBy 12 = .ok (.iaload, 1) := by decide +kernel
theorem dX11_answerBy_13 : decode cX11_answerBy 13 = .ok (.ifCond .ne 5, 3) := by decide +kernel
theorem dX11_answerBy_16 : decode cX11_answerBy 16 = .ok (.iconst 1, 1) := by decide +kernel
theorem dX11_answerBy_17 : decode cX11_answerBy 17 = .ok (.ireturn, 1) := by decide +kernel
theorem dX11_answerBy_18 : decode cX11_answerBy 18 = .ok (.aload_n 0, 1) := by decide +kernel
theorem dX11_answerBy_19 : decode cX11_answerBy 19 = .ok (.getfield 7, 3) := by decide +kernel
theorem dX11_answerBy_22 : decode cX11_answerBy 22 = .ok (.iload_n 3, 1) := by decide +kernel
theorem dX11_answerBy_23 : decode cX11_answerBy 23 = .ok (.iconst 1, 1) := by decide +kernel
theorem dX11_answerBy_24 : decode cX11_answerBy 24 = .ok (.iadd, 1) := by decide +kernel
theorem dX11_answerBy_25 : decode cX11_answerBy 25 = .ok (.iaload, 1) := by decide +kernel
theorem dX11_answerBy_26 : decode cX11_answerBy 26 = .ok (.iconst 1, 1) := by decide +kernel
theorem dX11_answerBy_27 : decode cX11_answerBy 27 = .ok (.isub, 1) := by decide +kernel
theorem dX11_answerBy_28 : decode cX11_answerBy 28 = .ok (.istore 4, 2) := by decide +kernel
theorem dX11_answerBy_30 : decode cX11_answerBy 30 = .ok (.aload_n 0, 1) := by decide +kernel
theorem dX11_answerBy_31 : decode cX11_answerBy 31 = .ok (.getfield 7, 3) := by decide +kernel
theorem dX11_answerBy_34 : decode cX11_answerBy 34 = .ok (.iload_n 3, 1) := by decide +kernel
theorem dX11_answerBy_35 : decode cX11_answerBy 35 = .ok (.iconst 2, 1) := by decide +kernel
theorem dX11_answerBy_36 : decode cX11_answerBy 36 = .ok (.iadd, 1) := by decide +kernel
theorem dX11_answerBy_37 : decode cX11_answerBy 37 = .ok (.iload 4, 2) := by decide +kernel
theorem dX11_answerBy_39 : decode cX11_answerBy 39 = .ok (.iadd, 1) := by decide +kernel
theorem dX11_answerBy_40 : decode cX11_answerBy 40 = .ok (.iaload, 1) := by decide +kernel
theorem dX11_answerBy_41 : decode cX11_answerBy 41 = .ok (.iload_n 2, 1) := by decide +kernel
theorem dX11_answerBy_42 : decode cX11_answerBy 42 = .ok (.if_icmp .le 9, 3) := by decide +kernel
theorem dX11_answerBy_45 : decode cX11_answerBy 45 = .ok (.iinc 4 (-1), 3) := by decide +kernel
theorem dX11_answerBy_48 : decode cX11_answerBy 48 = .ok (.goto (-18), 3) := by decide +kernel
theorem dX11_answerBy_51 : decode cX11_answerBy 51 = .ok (.aload_n 0, 1) := by decide +kernel
theorem dX11_answerBy_52 : decode cX11_answerBy 52 = .ok (.iload_n 2, 1) := by decide +kernel
theorem dX11_answerBy_53 : decode cX11_answerBy 53 = .ok (.invokevirtual 58, 3) := by decide +kernel
theorem dX11_answerBy_56 : decode cX11_answerBy 56 = .ok (.istore 5, 2) := by decide +kernel
theorem dX11_answerBy_58 : decode cX11_answerBy 58 = .ok (.aload_n 0, 1) := by decide +kernel
theorem dX11_answerBy_59 : decode cX11_answerBy 59 = .ok (.getfield 7, 3) := by decide +kernel
theorem dX11_answerBy_62 : decode cX11_answerBy 62 = .ok (.iconst 4, 1) := by decide +kernel
theorem dX11_answerBy_63 : decode cX11_answerBy 63 = .ok (.aload_n 0, 1) := by decide +kernel
theorem dX11_answerBy_64 : decode cX11_answerBy 64 = .ok (.getfield 7, 3) := by decide +kernel
theorem dX11_answerBy_67 : decode cX11_answerBy 67 = .ok (.iload_n 3, 1) := by decide +kernel
theorem dX11_answerBy_68 : decode cX11_answerBy 68 = .ok (.bipush 34, 2) := by decide +kernel
theorem dX11_answerBy_70 : decode cX11_answerBy 70 = .ok (.iadd, 1) := by decide +kernel
theorem dX11_answerBy_71 : decode cX11_answerBy 71 = .ok (.iload 4, 2) := by decide +kernel
theorem dX11_answerBy_73 : decode cX11_answerBy 73 = .ok (.iadd, 1) := by decide +kernel
theorem dX11_answerBy_74 : decode cX11_answerBy 74 = .ok (.iaload, 1) := by decide +kernel
theorem dX11_answerBy_75 : decode cX11_answerBy 75 = .ok (.iadd, 1) := by decide +kernel
theorem dX11_answerBy_76 : decode cX11_answerBy 76 = .ok (.iaload, 1) := by decide +kernel
theorem dX11_answerBy_77 : decode cX11_answerBy 77 = .ok (.ifCond .ne 5, 3) := by decide +kernel
theorem dX11_answerBy_80 : decode cX11_answerBy 80 = .ok (.iconst 2, 1) := by decide +kernel
theorem dX11_answerBy_81 : decode cX11_answerBy 81 = .ok (.ireturn, 1) := by decide +kernel
theorem dX11_answerBy_82 : decode cX11_answerBy 82 = .ok (.aload_n 0, 1) := by decide +kernel
theorem dX11_answerBy_83 : decode cX11_answerBy 83 = .ok (.getfield 7, 3) := by decide +kernel
theorem dX11_answerBy_86 : decode cX11_answerBy 86 = .ok (.iload_n 3, 1) := by decide +kernel
theorem dX11_answerBy_87 : decode cX11_answerBy 87 = .ok (.bipush 34, 2) := by decide +kernel
theorem dX11_answerBy_89 : decode cX11_answerBy 89 = .ok (.iadd, 1) := by decide +kernel
theorem dX11_answerBy_90 : decode cX11_answerBy 90 = .ok (.iload 4, 2) := by decide +kernel
theorem dX11_answerBy_92 : decode cX11_answerBy 92 = .ok (.iadd, 1) := by decide +kernel
theorem dX11_answerBy_93 : decode cX11_answerBy 93 = .ok (.iaload, 1) := by decide +kernel
theorem dX11_answerBy_94 : decode cX11_answerBy 94 = .ok (.aload_n 0, 1) := by decide +kernel
theorem dX11_answerBy_95 : decode cX11_answerBy 95 = .ok (.getfield 7, 3) := by decide +kernel
theorem dX11_answerBy_98 : decode cX11_answerBy 98 = .ok (.bipush 42, 2) := by decide +kernel
theorem dX11_answerBy_100 : decode cX11_answerBy 100 = .ok (.iload 5, 2) := by decide +kernel
theorem dX11_answerBy_102 : decode cX11_answerBy 102 = .ok (.iadd, 1) := by decide +kernel
theorem dX11_answerBy_103 : decode cX11_answerBy 103 = .ok (.iaload, 1) := by decide +kernel
theorem dX11_answerBy_104 : decode cX11_answerBy 104 = .ok (.if_icmp .ne 28, 3) := by decide +kernel
theorem dX11_answerBy_107 : decode cX11_answerBy 107 = .ok (.aload_n 0, 1) := by decide +kernel
theorem dX11_answerBy_108 : decode cX11_answerBy 108 = .ok (.getfield 7, 3) := by decide +kernel
theorem dX11_answerBy_111 : decode cX11_answerBy 111 = .ok (.iload_n 3, 1) := by decide +kernel
theorem dX11_answerBy_112 : decode cX11_answerBy 112 = .ok (.bipush 66, 2) := by decide +kernel
theorem dX11_answerBy_114 : decode cX11_answerBy 114 = .ok (.iadd, 1) := by decide +kernel
theorem dX11_answerBy_115 : decode cX11_answerBy 115 = .ok (.iload 4, 2) := by decide +kernel
theorem dX11_answerBy_117 : decode cX11_answerBy 117 = .ok (.iadd, 1) := by decide +kernel
theorem dX11_answerBy_118 : decode cX11_answerBy 118 = .ok (.iaload, 1) := by decide +kernel
theorem dX11_answerBy_119 : decode cX11_answerBy 119 = .ok (.aload_n 0, 1) := by decide +kernel
theorem dX11_answerBy_120 : decode cX11_answerBy 120 = .ok (.getfield 7, 3) := by decide +kernel
theorem dX11_answerBy_123 : decode cX11_answerBy 123 = .ok (.bipush 74, 2) := by decide +kernel
theorem dX11_answerBy_125 : decode cX11_answerBy 125 = .ok (.iload 5, 2) := by decide +kernel
theorem dX11_answerBy_127 : decode cX11_answerBy 127 = .ok (.iadd, 1) := by decide +kernel
theorem dX11_answerBy_128 : decode cX11_answerBy 128 = .ok (.iaload, 1) := by decide +kernel
theorem dX11_answerBy_129 : decode cX11_answerBy 129 = .ok (.if_icmp .eq 7, 3) := by decide +kernel
theorem dX11_answerBy_132 : decode cX11_answerBy 132 = .ok (.iconst 3, 1) := by decide +kernel
theorem dX11_answerBy_133 : decode cX11_answerBy 133 = .ok (.goto 4, 3) := by decide +kernel
theorem dX11_answerBy_136 : decode cX11_answerBy 136 = .ok (.iconst 0, 1) := by decide +kernel
theorem dX11_answerBy_137 : decode cX11_answerBy 137 = .ok (.ireturn, 1) := by decide +kernel
theorem dX11_isInTrail_0 : decode cX11_isInTrail 0 = .ok (.iconst 0, 1) := by decide +kernel
theorem dX11_isInTrail_1 : decode cX11_isInTrail 1 = .ok (.istore_n 3, 1) := by decide +kernel
theorem dX11_isInTrail_2 : decode cX11_isInTrail 2 = .ok (.iload_n 3, 1) := by decide +kernel
theorem dX11_isInTrail_3 : decode cX11_isInTrail 3 = .ok (.aload_n 0, 1) := by decide +kernel
theorem dX11_isInTrail_4 : decode cX11_isInTrail 4 = .ok (.getfield 7, 3) := by decide +kernel
theorem dX11_isInTrail_7 : decode cX11_isInTrail 7 = .ok (.iload_n 1, 1) := by decide +kernel
theorem dX11_isInTrail_8 : decode cX11_isInTrail 8 = .ok (.invokestatic 62, 3) := by decide +kernel
theorem dX11_isInTrail_11 : decode cX11_isInTrail 11 = .ok (.bipush 6, 2) := by decide +kernel
theorem dX11_isInTrail_13 : decode cX11_isInTrail 13 = .ok (.iadd, 1) := by decide +kernel
theorem dX11_isInTrail_14 : decode cX11_isInTrail 14 = .ok (.iaload, 1) := by decide +kernel
theorem dX11_isInTrail_15 : decode cX11_isInTrail 15 = .ok (.if_icmp .ge 29, 3) := by decide +kernel
theorem dX11_isInTrail_18 : decode cX11_isInTrail 18 = .ok (.aload_n 0, 1) := by decide +kernel
theorem dX11_isInTrail_19 : decode cX11_isInTrail 19 = .ok (.getfield 7, 3) := by decide +kernel
theorem dX11_isInTrail_22 : decode cX11_isInTrail 22 = .ok (.iload_n 1, 1) := by decide +kernel
theorem dX11_isInTrail_23 : decode cX11_isInTrail 23 = .ok (.invokestatic 62, 3) := by decide +kernel
theorem dX11_isInTrail_26 : decode cX11_isInTrail 26 = .ok (.bipush 12, 2) := by decide +kernel
theorem dX11_isInTrail_28 : decode cX11_isInTrail 28 = .ok (.iadd, 1) := by decide +kernel
theorem dX11_isInTrail_29 : decode cX11_isInTrail 29 = .ok (.iload_n 3, 1) := by decide +kernel
theorem dX11_isInTrail_30 : decode cX11_isInTrail 30 = .ok (.iadd, 1) := by decide +kernel
theorem dX11_isInTrail_31 : decode cX11_isInTrail 31 = .ok (.iaload, 1) := by decide +kernel
theorem dX11_isInTrail_32 : decode cX11_isInTrail 32 = .ok (.iload_n 2, 1) := by decide +kernel
theorem dX11_isInTrail_33 : decode cX11_isInTrail 33 = .ok (.if_icmp .ne 5, 3) := by decide +kernel
theorem dX11_isInTrail_36 : decode cX11_isInTrail 36 = .ok (.iconst 1, 1) := by decide +kernel
theorem dX11_isInTrail_37 : decode cX11_isInTrail 37 = .ok (.ireturn, 1) := by decide +kernel
theorem dX11_isInTrail_38 : decode cX11_isInTrail 38 = .ok (.iinc 3 1, 3) := by decide +kernel
theorem dX11_isInTrail_41 : decode cX11_isInTrail 41 = .ok (.goto (-39), 3) := by decide +kernel
theorem dX11_isInTrail_44 : decode cX11_isInTrail 44 = .ok (.iconst 0, 1) := by decide +kernel
theorem dX11_isInTrail_45 : decode cX11_isInTrail 45 = .ok (.ireturn, 1) := by decide +kernel
theorem dX11_isCatching_0 : decode cX11_isCatching 0 = .ok (.iload_n 1, 1) := by decide +kernel
theorem dX11_isCatching_1 : decode cX11_isCatching 1 = .ok (.iconst (-1), 1) := by decide +kernel
theorem dX11_isCatching_2 : decode cX11_isCatching 2 = .ok (.if_icmp .eq 22, 3) := by decide +kernel
theorem dX11_isCatching_5 : decode cX11_isCatching 5 = .ok (.aload_n 0, 1) := by decide +kernel
theorem dX11_isCatching_6 : decode cX11_isCatching 6 = .ok (.getfield 7, 3) := by decide +kernel
theorem dX11_isCatching_9 : decode cX11_isCatching 9 = .ok (.iload_n 1, 1) := by decide +kernel
theorem dX11_isCatching_10 : decode cX11_isCatching 10 = .ok (.invokestatic 62, 3) := by decide +kernel
theorem dX11_isCatching_13 : decode cX11_isCatching 13 = .ok (.iconst 0, 1) := by decide +kernel
theorem dX11_isCatching_14 : decode cX11_isCatching 14 = .ok (.iadd, 1) := by decide +kernel
theorem dX11_isCatching_15 : decode cX11_isCatching 15 = .ok (.iaload, 1) := by decide +kernel
theorem dX11_isCatching_16 : decode cX11_isCatching 16 = .ok (.iconst 2, 1) := by decide +kernel
theorem dX11_isCatching_17 : decode cX11_isCatching 17 = .ok (.if_icmp .gt 7, 3) := by decide +kernel
theorem dX11_isCatching_20 : decode cX11_isCatching 20 = .ok (.iconst 1, 1) := by decide +kernel
theorem dX11_isCatching_21 : decode cX11_isCatching 21 = .ok (.goto 4, 3) := by decide +kernel
theorem dX11_isCatching_24 : decode cX11_isCatching 24 = .ok (.iconst 0, 1) := by decide +kernel
theorem dX11_isCatching_25 : decode cX11_isCatching 25 = .ok (.ireturn, 1) := by decide +kernel
theorem dX11_isFrozen_0 : decode cX11_isFrozen 0 = .ok (.aload_n 0, 1) := by decide +kernel
theorem dX11_isFrozen_1 : decode cX11_isFrozen 1 = .ok (.aload_n 0, 1) := by decide +kernel
theorem dX11_isFrozen_2 : decode cX11_isFrozen 2 = .ok (.iload_n 1, 1) := by decide +kernel
theorem dX11_isFrozen_3 : decode cX11_isFrozen 3 = .ok (.invokevirtual 58, 3) := by decide +kernel
theorem dX11_isFrozen_6 : decode cX11_isFrozen 6 = .ok (.invokevirtual 79, 3) := by decide +kernel
theorem dX11_isFrozen_9 : decode cX11_isFrozen 9 = .ok (.istore_n 2, 1) := by decide +kernel
theorem dX11_isFrozen_10 : decode cX11_isFrozen 10 = .ok (.iload_n 2, 1) := by decide +kernel
theorem dX11_isFrozen_11 : decode cX11_isFrozen 11 = .ok (.iconst (-1), 1) := by decide +kernel
theorem dX11_isFrozen_12 : decode cX11_isFrozen 12 = .ok (.if_icmp .ne 5, 3) := by decide +kernel
theorem dX11_isFrozen_15 : decode cX11_isFrozen 15 = .ok (.iconst 0, 1) := by decide +kernel
theorem dX11_isFrozen_16 : decode cX11_isFrozen 16 = .ok (.ireturn, 1) := by decide +kernel
theorem dX11_isFrozen_17 : decode cX11_isFrozen 17 = .ok (.aload_n 0, 1) := by decide +kernel
theorem dX11_isFrozen_18 : decode cX11_isFrozen 18 = .ok (.getfield 7, 3) := by decide +kernel
theorem dX11_isFrozen_21 : decode cX11_isFrozen 21 = .ok (.iload_n 2, 1) := by decide +kernel
theorem dX11_isFrozen_22 : decode cX11_isFrozen 22 = .ok (.invokestatic 62, 3) := by decide +kernel
theorem dX11_isFrozen_25 : decode cX11_isFrozen 25 = .ok (.iconst 0, 1) := by decide +kernel
theorem dX11_isFrozen_26 : decode cX11_isFrozen 26 = .ok (.iadd, 1) := by decide +kernel
theorem dX11_isFrozen_27 : decode cX11_isFrozen 27 = .ok (.iaload, 1) := by decide +kernel
theorem dX11_isFrozen_28 : decode cX11_isFrozen 28 = .ok (.iconst 3, 1) := by decide +kernel
theorem dX11_isFrozen_29 : decode cX11_isFrozen 29 = .ok (.if_icmp .eq 37, 3) := by decide +kernel
theorem dX11_isFrozen_32 : decode cX11_isFrozen 32 = .ok (.aload_n 0, 1) := by decide +kernel
theorem dX11_isFrozen_33 : decode cX11_isFrozen 33 = .ok (.iload_n 2, 1) := by decide +kernel
theorem dX11_isFrozen_34 : decode cX11_isFrozen 34 = .ok (.invokevirtual 130, 3) := by decide +kernel
theorem dX11_isFrozen_37 : decode cX11_isFrozen 37 = .ok (.ifCond .eq 33, 3) := by decide +kernel
theorem dX11_isFrozen_40 : decode cX11_isFrozen 40 = .ok (.aload_n 0, 1) := by decide +kernel
theorem dX11_isFrozen_41 : decode cX11_isFrozen 41 = .ok (.getfield 7, 3) := by decide +kernel
theorem dX11_isFrozen_44 : decode cX11_isFrozen 44 = .ok (.iload_n 2, 1) := by decide +kernel
theorem dX11_isFrozen_45 : decode cX11_isFrozen 45 = .ok (.invokestatic 62, 3) := by decide +kernel
theorem dX11_isFrozen_48 : decode cX11_isFrozen 48 = .ok (.bipush 6, 2) := by decide +kernel
theorem dX11_isFrozen_50 : decode cX11_isFrozen 50 = .ok (.iadd, 1) := by decide +kernel
theorem dX11_isFrozen_51 : decode cX11_isFrozen 51 = .ok (.iaload, 1) := by decide +kernel
theorem dX11_isFrozen_52 : decode cX11_isFrozen 52 = .ok (.bipush 60, 2) := by decide +kernel
theorem dX11_isFrozen_54 : decode cX11_isFrozen 54 = .ok (.if_icmp .ne 16, 3) := by decide +kernel
theorem dX11_isFrozen_57 : decode cX11_isFrozen 57 = .ok (.aload_n 0, 1) := by decide +kernel
theorem dX11_isFrozen_58 : decode cX11_isFrozen 58 = .ok (.iload_n 2, 1) := by decide +kernel
theorem dX11_isFrozen_59 : decode cX11_isFrozen 59 = .ok (.iload_n 1, 1) := by decide +kernel
theorem dX11_isFrozen_60 : decode cX11_isFrozen 60 = .ok (.invokevirtual 133, 3) := by decide +kernel
theorem dX11_isFrozen_63 : decode cX11_isFrozen 63 = .ok (.ifCond .ne 7, 3) := by decide +kernel
theorem dX11_isFrozen_66 : decode cX11_isFrozen 66 = .ok (.iconst 1, 1) := by decide +kernel
theorem dX11_isFrozen_67 : decode cX11_isFrozen 67 = .ok (.goto 4, 3) := by decide +kernel
theorem dX11_isFrozen_70 : decode cX11_isFrozen 70 = .ok (.iconst 0, 1) := by decide +kernel
theorem dX11_isFrozen_71 : decode cX11_isFrozen 71 = .ok (.ireturn, 1) := by decide +kernel
theorem dX11_isWritten_0 : decode cX11_isWritten 0 = .ok (.aload_n 0, 1) := by decide +kernel
theorem dX11_isWritten_1 : decode cX11_isWritten 1 = .ok (.iload_n 1, 1) := by decide +kernel
theorem dX11_isWritten_2 : decode cX11_isWritten 2 = .ok (.invokevirtual 58, 3) := by decide +kernel
theorem dX11_isWritten_5 : decode cX11_isWritten 5 = .ok (.istore_n 3, 1) := by decide +kernel
theorem dX11_isWritten_6 : decode cX11_isWritten 6 = .ok (.aload_n 0, 1) := by decide +kernel
theorem dX11_isWritten_7 : decode cX11_isWritten 7 = .ok (.iload_n 3, 1) := by decide +kernel
theorem dX11_isWritten_8 : decode cX11_isWritten 8 = .ok (.invokevirtual 79, 3) := by decide +kernel
theorem dX11_isWritten_11 : decode cX11_isWritten 11 = .ok (.istore 4, 2) := by decide +kernel
theorem dX11_isWritten_13 : decode cX11_isWritten 13 = .ok (.aload_n 0, 1) := by decide +kernel
theorem dX11_isWritten_14 : decode cX11_isWritten 14 = .ok (.getfield 7, 3) := by decide +kernel
theorem dX11_isWritten_17 : decode cX11_isWritten 17 = .ok (.aload_n 0, 1) := by decide +kernel
theorem dX11_isWritten_18 : decode cX11_isWritten 18 = .ok (.getfield 7, 3) := by decide +kernel
theorem dX11_isWritten_21 : decode cX11_isWritten 21 = .ok (.bipush 42, 2) := by decide +kernel
theorem dX11_isWritten_23 : decode cX11_isWritten 23 = .ok (.iload_n 3, 1) := by decide +kernel
theorem dX11_isWritten_24 : decode cX11_isWritten 24 = .ok (.iadd, 1) := by decide +kernel
theorem dX11_isWritten_25 : decode cX11_isWritten 25 = .ok (.iaload, 1) := by decide +kernel
theorem dX11_isWritten_26 : decode cX11_isWritten 26 = .ok (.iload_n 1, 1) := by decide +kernel
theorem dX11_isWritten_27 : decode cX11_isWritten 27 = .ok (.invokestatic 136, 3) := by decide +kernel
theorem dX11_isWritten_30 : decode cX11_isWritten 30 = .ok (.iload_n 2, 1) := by decide +kernel
theorem dX11_isWritten_31 : decode cX11_isWritten 31 = .ok (.iastore, 1) := by decide +kernel
theorem dX11_isWritten_32 : decode cX11_isWritten 32 = .ok (.aload_n 0, 1) := by decide +kernel
theorem dX11_isWritten_33 : decode cX11_isWritten 33 = .ok (.getfield 7, 3) := by decide +kernel
theorem dX11_isWritten_36 : decode cX11_isWritten 36 = .ok (.bipush 106, 2) := by decide +kernel
theorem dX11_isWritten_38 : decode cX11_isWritten 38 = .ok (.iload_n 1, 1) := by decide +kernel
theorem dX11_isWritten_39 : decode cX11_isWritten 39 = .ok (.iadd, 1) := by decide +kernel
theorem dX11_isWritten_40 : decode cX11_isWritten 40 = .ok (.dup2, 1) := by decide +kernel
theorem dX11_isWritten_41 : decode cX11_isWritten 41 = .ok (.iaload, 1) := by decide +kernel
theorem dX11_isWritten_42 : decode cX11_isWritten 42 = .ok (.iconst 2, 1) := by decide +kernel
theorem dX11_isWritten_43 : decode cX11_isWritten 43 = .ok (.iadd, 1) := by decide +kernel
theorem dX11_isWritten_44 : decode cX11_isWritten 44 = .ok (.iastore, 1) := by decide +kernel
theorem dX11_isWritten_45 : decode cX11_isWritten 45 = .ok (.aload_n 0, 1) := by decide +kernel
theorem dX11_isWritten_46 : decode cX11_isWritten 46 = .ok (.iconst 1, 1) := by decide +kernel
theorem dX11_isWritten_47 : decode cX11_isWritten 47 = .ok (.iconst 1, 1) := by decide +kernel
theorem dX11_isWritten_48 : decode cX11_isWritten 48 = .ok (.invokevirtual 97, 3) := by decide +kernel
theorem dX11_isWritten_51 : decode cX11_isWritten 51 = .ok (.aload_n 0, 1) := by decide +kernel
theorem dX11_isWritten_52 : decode cX11_isWritten 52 = .ok (.iload 4, 2) := by decide +kernel
theorem dX11_isWritten_54 : decode cX11_isWritten 54 = .ok (.invokevirtual 130, 3) := by decide +kernel
theorem dX11_isWritten_57 : decode cX11_isWritten 57 = .ok (.ifCond .eq 13, 3) := by decide +kernel
theorem dX11_isWritten_60 : decode cX11_isWritten 60 = .ok (.aload_n 0, 1) := by decide +kernel
theorem dX11_isWritten_61 : decode cX11_isWritten 61 = .ok (.iload 4, 2) := by decide +kernel
theorem dX11_isWritten_63 : decode cX11_isWritten 63 = .ok (.iload_n 1, 1) := by decide +kernel
theorem dX11_isWritten_64 : decode cX11_isWritten 64 = .ok (.invokevirtual 133, 3) := by decide +kernel
theorem dX11_isWritten_67 : decode cX11_isWritten 67 = .ok (.ifCond .eq 4, 3) := by decide +kernel
theorem dX11_isWritten_70 : decode cX11_isWritten 70 = .ok (.return_, 1) := by decide +kernel
theorem dX11_isWritten_71 : decode cX11_isWritten 71 = .ok (.aload_n 0, 1) := by decide +kernel
theorem dX11_isWritten_72 : decode cX11_isWritten 72 = .ok (.getfield 7, 3) := by decide +kernel
theorem dX11_isWritten_75 : decode cX11_isWritten 75 = .ok (.iload 4, 2) := by decide +kernel
theorem dX11_isWritten_77 : decode cX11_isWritten 77 = .ok (.invokestatic 62, 3) := by decide +kernel
theorem dX11_isWritten_80 : decode cX11_isWritten 80 = .ok (.bipush 12, 2) := by decide +kernel
theorem dX11_isWritten_82 : decode cX11_isWritten 82 = .ok (.iadd, 1) := by decide +kernel
theorem dX11_isWritten_83 : decode cX11_isWritten 83 = .ok (.aload_n 0, 1) := by decide +kernel
theorem dX11_isWritten_84 : decode cX11_isWritten 84 = .ok (.getfield 7, 3) := by decide +kernel
theorem dX11_isWritten_87 : decode cX11_isWritten 87 = .ok (.iload 4, 2) := by decide +kernel
theorem dX11_isWritten_89 : decode cX11_isWritten 89 = .ok (.invokestatic 62, 3) := by decide +kernel
theorem dX11_isWritten_92 : decode cX11_isWritten 92 = .ok (.bipush 6, 2) := by decide +kernel
theorem dX11_isWritten_94 : decode cX11_isWritten 94 = .ok (.iadd, 1) := by decide +kernel
theorem dX11_isWritten_95 : decode cX11_isWritten 95 = .ok (.iaload, 1) := by decide +kernel
theorem dX11_isWritten_96 : decode cX11_isWritten 96 = .ok (.iadd, 1) := by decide +kernel
theorem dX11_isWritten_97 : decode cX11_isWritten 97 = .ok (.iload_n 1, 1) := by decide +kernel
theorem dX11_isWritten_98 : decode cX11_isWritten 98 = .ok (.iastore, 1) := by decide +kernel
theorem dX11_isWritten_99 : decode cX11_isWritten 99 = .ok (.aload_n 0, 1) := by decide +kernel
theorem dX11_isWritten_100 : decode cX11_isWritten 100 = .ok (.getfield 7, 3) := by decide +kernel
theorem dX11_isWritten_103 : decode cX11_isWritten 103 = .ok (.iload 4, 2) := by decide +kernel
theorem dX11_isWritten_105 : decode cX11_isWritten 105 = .ok (.invokestatic 62, 3) := by decide +kernel
theorem dX11_isWritten_108 : decode cX11_isWritten 108 = .ok (.bipush 6, 2) := by decide +kernel
theorem dX11_isWritten_110 : decode cX11_isWritten 110 = .ok (.iadd, 1) := by decide +kernel
theorem dX11_isWritten_111 : decode cX11_isWritten 111 = .ok (.dup2, 1) := by decide +kernel
theorem dX11_isWritten_112 : decode cX11_isWritten 112 = .ok (.iaload, 1) := by decide +kernel
theorem dX11_isWritten_113 : decode cX11_isWritten 113 = .ok (.iconst 1, 1) := by decide +kernel
theorem dX11_isWritten_114 : decode cX11_isWritten 114 = .ok (.iadd, 1) := by decide +kernel
theorem dX11_isWritten_115 : decode cX11_isWritten 115 = .ok (.iastore, 1) := by decide +kernel
theorem dX11_isWritten_116 : decode cX11_isWritten 116 = .ok (.return_, 1) := by decide +kernel
theorem dX11_asks_0 : decode cX11_asks 0 = .ok (.aload_n 0, 1) := by decide +kernel
theorem dX11_asks_1 : decode cX11_asks 1 = .ok (.iload_n 1, 1) := by decide +kernel
theorem dX11_asks_2 : decode cX11_asks 2 = .ok (.iload_n 2, 1) := by decide +kernel
theorem dX11_asks_3 : decode cX11_asks 3 = .ok (.invokevirtual 140, 3) := by decide +kernel
theorem dX11_asks_6 : decode cX11_asks 6 = .ok (.istore 4, 2) := by decide +kernel
theorem dX11_asks_8 : decode cX11_asks 8 = .ok (.iload 4, 2) := by decide +kernel
theorem dX11_asks_10 : decode cX11_asks 10 = .ok (.ifCond .ne 18, 3) := by decide +kernel
theorem dX11_asks_13 : decode cX11_asks 13 = .ok (.iload_n 3, 1) := by decide +kernel
theorem dX11_asks_14 : decode cX11_asks 14 = .ok (.ifCond .le 14, 3) := by decide +kernel
theorem dX11_asks_17 : decode cX11_asks 17 = .ok (.aload_n 0, 1) := by decide +kernel
theorem dX11_asks_18 : decode cX11_asks 18 = .ok (.iload_n 2, 1) := by decide +kernel
theorem dX11_asks_19 : decode cX11_asks 19 = .ok (.invokevirtual 143, 3) := by decide +kernel
theorem dX11_asks_22 : decode cX11_asks 22 = .ok (.ifCond .eq 6, 3) := by decide +kernel
theorem dX11_asks_25 : decode cX11_asks 25 = .ok (.iconst 4, 1) := by decide +kernel
theorem dX11_asks_26 : decode cX11_asks 26 = .ok (.istore 4, 2) := by decide +kernel
theorem dX11_asks_28 : decode cX11_asks 28 = .ok (.aload_n 0, 1) := by decide +kernel
theorem dX11_asks_29 : decode cX11_asks 29 = .ok (.getfield 7, 3) := by decide +kernel
theorem dX11_asks_32 : decode cX11_asks 32 = .ok (.sipush 8573, 3) := by decide +kernel
theorem dX11_asks_35 : decode cX11_asks 35 = .ok (.iconst 4, 1) := by decide +kernel
theorem dX11_asks_36 : decode cX11_asks 36 = .ok (.iload_n 1, 1) := by decide +kernel
theorem dX11_asks_37 : decode cX11_asks 37 = .ok (.imul, 1) := by decide +kernel
theorem dX11_asks_38 : decode cX11_asks 38 = .ok (.iadd, 1) := by decide +kernel
theorem dX11_asks_39 : decode cX11_asks 39 = .ok (.dup2, 1) := by decide +kernel
theorem dX11_asks_40 : decode cX11_asks 40 = .ok (.iaload, 1) := by decide +kernel
theorem dX11_asks_41 : decode cX11_asks 41 = .ok (.iconst 1, 1) := by decide +kernel
theorem dX11_asks_42 : decode cX11_asks 42 = .ok (.iadd, 1) := by decide +kernel
theorem dX11_asks_43 : decode cX11_asks 43 = .ok (.iastore, 1) := by decide +kernel
theorem dX11_asks_44 : decode cX11_asks 44 = .ok (.iload 4, 2) := by decide +kernel
theorem dX11_asks_46 : decode cX11_asks 46 = .ok (.iconst 3, 1) := by decide +kernel
theorem dX11_asks_47 : decode cX11_asks 47 = .ok (.if_icmp .ne 48, 3) := by decide +kernel
theorem dX11_asks_50 : decode cX11_asks 50 = .ok (.aload_n 0, 1) := by decide +kernel
theorem dX11_asks_51 : decode cX11_asks 51 = .ok (.getfield 7, 3) := by decide +kernel
theorem dX11_asks_54 : decode cX11_asks 54 = .ok (.sipush 8573, 3) := by decide +kernel
theorem dX11_asks_57 : decode cX11_asks 57 = .ok (.iconst 4, 1) := by decide +kernel
theorem dX11_asks_58 : decode cX11_asks 58 = .ok (.iload_n 1, 1) := by decide +kernel
theorem dX11_asks_59 : decode cX11_asks 59 = .ok (.imul, 1) := by decide +kernel
theorem dX11_asks_60 : decode cX11_asks 60 = .ok (.iadd, 1) := by decide +kernel
theorem dX11_asks_61 : decode cX11_asks 61 = .ok (.iconst 2, 1) := by decide +kernel
theorem dX11_asks_62 : decode cX11_asks 62 = .ok (.iadd, 1) := by decide +kernel
theorem dX11_asks_63 : decode cX11_asks 63 = .ok (.dup2, 1) := by decide +kernel
theorem dX11_asks_64 : decode cX11_asks 64 = .ok (.iaload, 1) := by decide +kernel
theorem dX11_asks_65 : decode cX11_asks 65 = .ok (.iconst 1, 1) := by decide +kernel
theorem dX11_asks_66 : decode cX11_asks 66 = .ok (.iadd, 1) := by decide +kernel
theorem dX11_asks_67 : decode cX11_asks 67 = .ok (.iastore, 1) := by decide +kernel
theorem dX11_asks_68 : decode cX11_asks 68 = .ok (.aload_n 0, 1) := by decide +kernel
theorem dX11_asks_69 : decode cX11_asks 69 = .ok (.getfield 7, 3) := by decide +kernel
theorem dX11_asks_72 : decode cX11_asks 72 = .ok (.sipush 8573, 3) := by decide +kernel
theorem dX11_asks_75 : decode cX11_asks 75 = .ok (.iconst 4, 1) := by decide +kernel
theorem dX11_asks_76 : decode cX11_asks 76 = .ok (.iload_n 1, 1) := by decide +kernel
theorem dX11_asks_77 : decode cX11_asks 77 = .ok (.imul, 1) := by decide +kernel
theorem dX11_asks_78 : decode cX11_asks 78 = .ok (.iadd, 1) := by decide +kernel
theorem dX11_asks_79 : decode cX11_asks 79 = .ok (.iconst 3, 1) := by decide +kernel
theorem dX11_asks_80 : decode cX11_asks 80 = .ok (.iadd, 1) := by decide +kernel
theorem dX11_asks_81 : decode cX11_asks 81 = .ok (.aload_n 0, 1) := by decide +kernel
theorem dX11_asks_82 : decode cX11_asks 82 = .ok (.getfield 7, 3) := by decide +kernel
theorem dX11_asks_85 : decode cX11_asks 85 = .ok (.bipush 74, 2) := by decide +kernel
theorem dX11_asks_87 : decode cX11_asks 87 = .ok (.aload_n 0, 1) := by decide +kernel
theorem dX11_asks_88 : decode cX11_asks 88 = .ok (.iload_n 2, 1) := by decide +kernel
theorem dX11_asks_89 : decode cX11_asks 89 = .ok (.invokevirtual 58, 3) := by decide +kernel
theorem dX11_asks_92 : decode cX11_asks 92 = .ok (.iadd, 1) := by decide +kernel
theorem dX11_asks_93 : decode cX11_asks 93 = .ok (.iaload, 1) := by decide +kernel
theorem dX11_asks_94 : decode cX11_asks 94 = .ok (.iastore, 1) := by decide +kernel
theorem dX11_asks_95 : decode cX11_asks 95 = .ok (.iload 4, 2) := by decide +kernel
theorem dX11_asks_97 : decode cX11_asks 97 = .ok (.ifCond .le 15, 3) := by decide +kernel
theorem dX11_asks_100 : decode cX11_asks 100 = .ok (.aload_n 0, 1) := by decide +kernel
theorem dX11_asks_101 : decode cX11_asks 101 = .ok (.iconst 1, 1) := by decide +kernel
theorem dX11_asks_102 : decode cX11_asks 102 = .ok (.iload 4, 2) := by decide +kernel
theorem dX11_asks_104 : decode cX11_asks 104 = .ok (.iadd, 1) := by decide +kernel
theorem dX11_asks_105 : decode cX11_asks 105 = .ok (.iconst 1, 1) := by decide +kernel
theorem dX11_asks_106 : decode cX11_asks 106 = .ok (.invokevirtual 97, 3) := by decide +kernel
theorem dX11_asks_109 : decode cX11_asks 109 = .ok (.iload 4, 2) := by decide +kernel
theorem dX11_asks_111 : decode cX11_asks 111 = .ok (.ireturn, 1) := by decide +kernel
theorem dX11_asks_112 : decode cX11_asks 112 = .ok (.aload_n 0, 1) := by decide +kernel
theorem dX11_asks_113 : decode cX11_asks 113 = .ok (.getfield 7, 3) := by decide +kernel
theorem dX11_asks_116 : decode cX11_asks 116 = .ok (.sipush 8573, 3) := by decide +kernel
theorem dX11_asks_119 : decode cX11_asks 119 = .ok (.iconst 4, 1) := by decide +kernel
theorem dX11_asks_120 : decode cX11_asks 120 = .ok (.iload_n 1, 1) := by decide +kernel
theorem dX11_asks_121 : decode cX11_asks 121 = .ok (.imul, 1) := by decide +kernel
theorem dX11_asks_122 : decode cX11_asks 122 = .ok (.iadd, 1) := by decide +kernel
theorem dX11_asks_123 : decode cX11_asks 123 = .ok (.iconst 1, 1) := by decide +kernel
theorem dX11_asks_124 : decode cX11_asks 124 = .ok (.iadd, 1) := by decide +kernel
theorem dX11_asks_125 : decode cX11_asks 125 = .ok (.dup2, 1) := by decide +kernel
theorem dX11_asks_126 : decode cX11_asks 126 = .ok (.iaload, 1) := by decide +kernel
theorem dX11_asks_127 : decode cX11_asks 127 = .ok (.iconst 1, 1) := by decide +kernel
theorem dX11_asks_128 : decode cX11_asks 128 = .ok (.iadd, 1) := by decide +kernel
theorem dX11_asks_129 : decode cX11_asks 129 = .ok (.iastore, 1) := by decide +kernel
theorem dX11_asks_130 : decode cX11_asks 130 = .ok (.aload_n 0, 1) := by decide +kernel
theorem dX11_asks_131 : decode cX11_asks 131 = .ok (.invokevirtual 124, 3) := by decide +kernel
theorem dX11_asks_134 : decode cX11_asks 134 = .ok (.iload_n 3, 1) := by decide +kernel
theorem dX11_asks_135 : decode cX11_asks 135 = .ok (.ifCond .le 12, 3) := by decide +kernel
theorem dX11_asks_138 : decode cX11_asks 138 = .ok (.aload_n 0, 1) := by decide +kernel
theorem dX11_asks_139 : decode cX11_asks 139 = .ok (.iload_n 2, 1) := by decide +kernel
theorem dX11_asks_140 : decode cX11_asks 140 = .ok (.iload_n 3, 1) := by decide +kernel
theorem dX11_asks_141 : decode cX11_asks 141 = .ok (.invokevirtual 146, 3) := by decide +kernel
theorem dX11_asks_144 : decode cX11_asks 144 = .ok (.goto 22, 3) := by decide +kernel
theorem dX11_asks_147 : decode cX11_asks 147 = .ok (.aload_n 0, 1) := by decide +kernel
theorem dX11_asks_148 : decode cX11_asks 148 = .ok (.getfield 7, 3) := by decide +kernel
theorem dX11_asks_151 : decode cX11_asks 151 = .ok (.bipush 106, 2) := by decide +kernel
theorem dX11_asks_153 : decode cX11_asks 153 = .ok (.iload_n 2, 1) := by decide +kernel
theorem dX11_asks_154 : decode cX11_asks 154 = .ok (.iadd, 1) := by decide +kernel
theorem dX11_asks_155 : decode cX11_asks 155 = .ok (.dup2, 1) := by decide +kernel
theorem dX11_asks_156 : decode cX11_asks 156 = .ok (.iaload, 1) := by decide +kernel
theorem dX11_asks_157 : decode cX11_asks 157 = .ok (.iconst 1, 1) := by decide +kernel
theorem dX11_asks_158 : decode cX11_asks 158 = .ok (.iadd, 1) := by decide +kernel
theorem dX11_asks_159 : decode cX11_asks 159 = .ok (.iastore, 1) := by decide +kernel
theorem dX11_asks_160 : decode cX11_asks 160 = .ok (.aload_n 0, 1) := by decide +kernel
theorem dX11_asks_161 : decode cX11_asks 161 = .ok (.iconst 0, 1) := by decide +kernel
theorem dX11_asks_162 : decode cX11_asks 162 = .ok (.iconst 1, 1) := by decide +kernel
theorem dX11_asks_163 : decode cX11_asks 163 = .ok (.invokevirtual 97, 3) := by decide +kernel
theorem dX11_asks_166 : decode cX11_asks 166 = .ok (.iconst 0, 1) := by decide +kernel
theorem dX11_asks_167 : decode cX11_asks 167 = .ok (.ireturn, 1) := by decide +kernel
theorem dX11_read_0 : decode cX11_read 0 = .ok (.iload_n 1, 1) := by decide +kernel
theorem dX11_read_1 : decode cX11_read 1 = .ok (.invokestatic 121, 3) := by decide +kernel
theorem dX11_read_4 : decode cX11_read 4 = .ok (.ifCond .eq 10, 3) := by decide +kernel
theorem dX11_read_7 : decode cX11_read 7 = .ok (.iload_n 2, 1) := by decide +kernel
theorem dX11_read_8 : decode cX11_read 8 = .ok (.invokestatic 54, 3) := by decide +kernel
theorem dX11_read_11 : decode cX11_read 11 = .ok (.ifCond .ne 6, 3) := by decide +kernel
theorem dX11_read_14 : decode cX11_read 14 = .ok (.bipush (-10), 2) := by decide +kernel
theorem dX11_read_16 : decode cX11_read 16 = .ok (.ireturn, 1) := by decide +kernel
theorem dX11_read_17 : decode cX11_read 17 = .ok (.aload_n 0, 1) := by decide +kernel
theorem dX11_read_18 : decode cX11_read 18 = .ok (.iload_n 1, 1) := by decide +kernel
theorem dX11_read_19 : decode cX11_read 19 = .ok (.iload_n 2, 1) := by decide +kernel
theorem dX11_read_20 : decode cX11_read 20 = .ok (.iconst 0, 1) := by decide +kernel
theorem dX11_read_21 : decode cX11_read 21 = .ok (.invokevirtual 149, 3) := by decide +kernel
theorem dX11_read_24 : decode cX11_read 24 = .ok (.istore_n 3, 1) := by decide +kernel
theorem dX11_read_25 : decode cX11_read 25 = .ok (.iload_n 3, 1) := by decide +kernel
theorem dX11_read_26 : decode cX11_read 26 = .ok (.ifCond .le 9, 3) := by decide +kernel
theorem dX11_read_29 : decode cX11_read 29 = .ok (.iconst (-1), 1) := by decide +kernel
theorem dX11_read_30 : decode cX11_read 30 = .ok (.iload_n 3, 1) := by decide +kernel
theorem dX11_read_31 : decode cX11_read 31 = .ok (.isub, 1) := by decide +kernel
theorem dX11_read_32 : decode cX11_read 32 = .ok (.goto 25, 3) := by decide +kernel
theorem dX11_read_35 : decode cX11_read 35 = .ok (.aload_n 0, 1) := by decide +kernel
theorem dX11_read_36 : decode cX11_read 36 = .ok (.getfield 7, 3) := by decide +kernel
theorem dX11_read_39 : decode cX11_read 39 = .ok (.aload_n 0, 1) := by decide +kernel
theorem dX11_read_40 : decode cX11_read 40 = .ok (.getfield 7, 3) := by decide +kernel
theorem dX11_read_43 : decode cX11_read 43 = .ok (.bipush 42, 2) := by decide +kernel
theorem dX11_read_45 : decode cX11_read 45 = .ok (.aload_n 0, 1) := by decide +kernel
theorem dX11_read_46 : decode cX11_read 46 = .ok (.iload_n 2, 1) := by decide +kernel
theorem dX11_read_47 : decode cX11_read 47 = .ok (.invokevirtual 58, 3) := by decide +kernel
theorem dX11_read_50 : decode cX11_read 50 = .ok (.iadd, 1) := by decide +kernel
theorem dX11_read_51 : decode cX11_read 51 = .ok (.iaload, 1) := by decide +kernel
theorem dX11_read_52 : decode cX11_read 52 = .ok (.iload_n 2, 1) := by decide +kernel
theorem dX11_read_53 : decode cX11_read 53 = .ok (.invokestatic 136, 3) := by decide +kernel
theorem dX11_read_56 : decode cX11_read 56 = .ok (.iaload, 1) := by decide +kernel
theorem dX11_read_57 : decode cX11_read 57 = .ok (.ireturn, 1) := by decide +kernel
theorem dX11_canWrite_0 : decode cX11_canWrite 0 = .ok (.iload_n 0, 1) := by decide +kernel
theorem dX11_canWrite_1 : decode cX11_canWrite 1 = .ok (.invokestatic 121, 3) := by decide +kernel
theorem dX11_canWrite_4 : decode cX11_canWrite 4 = .ok (.ifCond .eq 26, 3) := by decide +kernel
theorem dX11_canWrite_7 : decode cX11_canWrite 7 = .ok (.iload_n 1, 1) := by decide +kernel
theorem dX11_canWrite_8 : decode cX11_canWrite 8 = .ok (.invokestatic 54, 3) := by decide +kernel
theorem dX11_canWrite_11 : decode cX11_canWrite 11 = .ok (.ifCond .eq 19, 3) := by decide +kernel
theorem dX11_canWrite_14 : decode cX11_canWrite 14 = .ok (.iload_n 2, 1) := by decide +kernel
theorem dX11_canWrite_15 : decode cX11_canWrite 15 = .ok (.i2l, 1) := by decide +kernel
theorem dX11_canWrite_16 : decode cX11_canWrite 16 = .ok (.lconst 1, 1) := by decide +kernel
theorem dX11_canWrite_17 : decode cX11_canWrite 17 = .ok (.ldc2_w 152, 3) := by decide +kernel
theorem dX11_canWrite_20 : decode cX11_canWrite 20 = .ok (.invokestatic 45, 3) := by decide +kernel
theorem dX11_canWrite_23 : decode cX11_canWrite 23 = .ok (.ifCond .eq 7, 3) := by decide +kernel
theorem dX11_canWrite_26 : decode cX11_canWrite 26 = .ok (.iconst 1, 1) := by decide +kernel
theorem dX11_canWrite_27 : decode cX11_canWrite 27 = .ok (.goto 4, 3) := by decide +kernel
theorem dX11_canWrite_30 : decode cX11_canWrite 30 = .ok (.iconst 0, 1) := by decide +kernel
theorem dX11_canWrite_31 : decode cX11_canWrite 31 = .ok (.ireturn, 1) := by decide +kernel
theorem dX11_write_0 : decode cX11_write 0 = .ok (.iload_n 1, 1) := by decide +kernel
theorem dX11_write_1 : decode cX11_write 1 = .ok (.iload_n 2, 1) := by decide +kernel
theorem dX11_write_2 : decode cX11_write 2 = .ok (.iload_n 3, 1) := by decide +kernel
theorem dX11_write_3 : decode cX11_write 3 = .ok (.invokestatic 154, 3) := by decide +kernel
theorem dX11_write_6 : decode cX11_write 6 = .ok (.ifCond .eq 13, 3) := by decide +kernel
theorem dX11_write_9 : decode cX11_write 9 = .ok (.aload_n 0, 1) := by decide +kernel
theorem dX11_write_10 : decode cX11_write 10 = .ok (.iload_n 1, 1) := by decide +kernel
theorem dX11_write_11 : decode cX11_write 11 = .ok (.iload_n 2, 1) := by decide +kernel
theorem dX11_write_12 : decode cX11_write 12 = .ok (.iload_n 3, 1) := by decide +kernel
theorem dX11_write_13 : decode cX11_write 13 = .ok (.invokevirtual 149, 3) := by decide +kernel
theorem dX11_write_16 : decode cX11_write 16 = .ok (.goto 4, 3) := by decide +kernel
theorem dX11_write_19 : decode cX11_write 19 = .ok (.iconst (-1), 1) := by decide +kernel
theorem dX11_write_20 : decode cX11_write 20 = .ok (.ireturn, 1) := by decide +kernel
theorem dX11_insist_0 : decode cX11_insist 0 = .ok (.iload_n 1, 1) := by decide +kernel
theorem dX11_insist_1 : decode cX11_insist 1 = .ok (.iload_n 2, 1) := by decide +kernel
theorem dX11_insist_2 : decode cX11_insist 2 = .ok (.iload_n 3, 1) := by decide +kernel
theorem dX11_insist_3 : decode cX11_insist 3 = .ok (.invokestatic 154, 3) := by decide +kernel
theorem dX11_insist_6 : decode cX11_insist 6 = .ok (.ifCond .ne 5, 3) := by decide +kernel
theorem dX11_insist_9 : decode cX11_insist 9 = .ok (.iconst (-1), 1) := by decide +kernel
theorem dX11_insist_10 : decode cX11_insist 10 = .ok (.ireturn, 1) := by decide +kernel
theorem dX11_insist_11 : decode cX11_insist 11 = .ok (.aload_n 0, 1) := by decide +kernel
theorem dX11_insist_12 : decode cX11_insist 12 = .ok (.iload_n 1, 1) := by decide +kernel
theorem dX11_insist_13 : decode cX11_insist 13 = .ok (.iload_n 2, 1) := by decide +kernel
theorem dX11_insist_14 : decode cX11_insist 14 = .ok (.iload_n 3, 1) := by decide +kernel
theorem dX11_insist_15 : decode cX11_insist 15 = .ok (.invokevirtual 149, 3) := by decide +kernel
theorem dX11_insist_18 : decode cX11_insist 18 = .ok (.istore 4, 2) := by decide +kernel
theorem dX11_insist_20 : decode cX11_insist 20 = .ok (.iload 4, 2) := by decide +kernel
theorem dX11_insist_22 : decode cX11_insist 22 = .ok (.iconst 3, 1) := by decide +kernel
theorem dX11_insist_23 : decode cX11_insist 23 = .ok (.if_icmp .eq 6, 3) := by decide +kernel
theorem dX11_insist_26 : decode cX11_insist 26 = .ok (.iload 4, 2) := by decide +kernel
theorem dX11_insist_28 : decode cX11_insist 28 = .ok (.ireturn, 1) := by decide +kernel
theorem dX11_insist_29 : decode cX11_insist 29 = .ok (.aload_n 0, 1) := by decide +kernel
theorem dX11_insist_30 : decode cX11_insist 30 = .ok (.iload_n 1, 1) := by decide +kernel
theorem dX11_insist_31 : decode cX11_insist 31 = .ok (.invokevirtual 158, 3) := by decide +kernel
theorem dX11_insist_34 : decode cX11_insist 34 = .ok (.istore 5, 2) := by decide +kernel
theorem dX11_insist_36 : decode cX11_insist 36 = .ok (.iload 5, 2) := by decide +kernel
theorem dX11_insist_38 : decode cX11_insist 38 = .ok (.iconst (-1), 1) := by decide +kernel
theorem dX11_insist_39 : decode cX11_insist 39 = .ok (.if_icmp .ne 7, 3) := by decide +kernel
theorem dX11_insist_42 : decode cX11_insist 42 = .ok (.iconst (-1), 1) := by decide +kernel
theorem dX11_insist_43 : decode cX11_insist 43 = .ok (.goto 10, 3) := by decide +kernel
theorem dX11_insist_46 : decode cX11_insist 46 = .ok (.aload_n 0, 1) := by decide +kernel
theorem dX11_insist_47 : decode cX11_insist 47 = .ok (.iload_n 1, 1) := by decide +kernel
theorem dX11_insist_48 : decode cX11_insist 48 = .ok (.iload_n 2, 1) := by decide +kernel
theorem dX11_insist_49 : decode cX11_insist 49 = .ok (.iload_n 3, 1) := by decide +kernel
theorem dX11_insist_50 : decode cX11_insist 50 = .ok (.invokevirtual 149, 3) := by decide +kernel
theorem dX11_insist_53 : decode cX11_insist 53 = .ok (.ireturn, 1) := by decide +kernel
theorem dX11_going_0 : decode cX11_going 0 = .ok (.iconst 0, 1) := by decide +kernel
theorem dX11_going_1 : decode cX11_going 1 = .ok (.istore_n 1, 1) := by decide +kernel
theorem dX11_going_2 : decode cX11_going 2 = .ok (.iconst 0, 1) := by decide +kernel
theorem dX11_going_3 : decode cX11_going 3 = .ok (.istore_n 2, 1) := by decide +kernel
theorem dX11_going_4 : decode cX11_going 4 = .ok (.iload_n 2, 1) := by decide +kernel
theorem dX11_going_5 : decode cX11_going 5 = .ok (.aload_n 0, 1) := by decide +kernel
theorem dX11_going_6 : decode cX11_going 6 = .ok (.getfield 7, 3) := by decide +kernel
theorem dX11_going_9 : decode cX11_going 9 = .ok (.iconst 3, 1) := by decide +kernel
theorem dX11_going_10 : decode cX11_going 10 = .ok (.iaload, 1) := by decide +kernel
theorem dX11_going_11 : decode cX11_going 11 = .ok (.if_icmp .ge 25, 3) := by decide +kernel
theorem dX11_going_14 : decode cX11_going 14 = .ok (.iload_n 1, 1) := by decide +kernel
theorem dX11_going_15 : decode cX11_going 15 = .ok (.aload_n 0, 1) := by decide +kernel
theorem dX11_going_16 : decode cX11_going 16 = .ok (.iload_n 2, 1) := by decide +kernel
theorem dX11_going_17 : decode cX11_going 17 = .ok (.invokevirtual 67, 3) := by decide +kernel
theorem dX11_going_20 : decode cX11_going 20 = .ok (.ifCond .eq 7, 3) := by decide +kernel
theorem dX11_going_23 : decode cX11_going 23 = .ok (.iconst 1, 1) := by decide +kernel
theorem dX11_going_24 : decode cX11_going 24 = .ok (.goto 4, 3) := by decide +kernel
theorem dX11_going_27 : decode cX11_going 27 = .ok (.iconst 0, 1) := by decide +kernel
theorem dX11_going_28 : decode cX11_going 28 = .ok (.iadd, 1) := by decide +kernel
theorem dX11_going_29 : decode cX11_going 29 = .ok (.istore_n 1, 1) := by decide +kernel
theorem dX11_going_30 : decode cX11_going 30 = .ok (.iinc 2 1, 3) := by decide +kernel
theorem dX11_going_33 : decode cX11_going 33 = .ok (.goto (-29), 3) := by decide +kernel
theorem dX11_going_36 : decode cX11_going 36 = .ok (.iload_n 1, 1) := by decide +kernel
theorem dX11_going_37 : decode cX11_going 37 = .ok (.ireturn, 1) := by decide +kernel
theorem dX11_move_0 : decode cX11_move 0 = .ok (.aload_n 0, 1) := by decide +kernel
theorem dX11_move_1 : decode cX11_move 1 = .ok (.iload_n 1, 1) := by decide +kernel
theorem dX11_move_2 : decode cX11_move 2 = .ok (.invokevirtual 100, 3) := by decide +kernel
theorem dX11_move_5 : decode cX11_move 5 = .ok (.istore_n 3, 1) := by decide +kernel
theorem dX11_move_6 : decode cX11_move 6 = .ok (.iload_n 3, 1) := by decide +kernel
theorem dX11_move_7 : decode cX11_move 7 = .ok (.iconst (-1), 1) := by decide +kernel
theorem dX11_move_8 : decode cX11_move 8 = .ok (.if_icmp .eq 32, 3) := by decide +kernel
theorem dX11_move_11 : decode cX11_move 11 = .ok (.iload_n 2, 1) := by decide +kernel
theorem dX11_move_12 : decode cX11_move 12 = .ok (.invokestatic 161, 3) := by decide +kernel
theorem dX11_move_15 : decode cX11_move 15 = .ok (.ifCond .eq 25, 3) := by decide +kernel
theorem dX11_move_18 : decode cX11_move 18 = .ok (.aload_n 0, 1) := by decide +kernel
theorem dX11_move_19 : decode cX11_move 19 = .ok (.getfield 7, 3) := by decide +kernel
theorem dX11_move_22 : decode cX11_move 22 = .ok (.bipush 42, 2) := by decide +kernel
theorem dX11_move_24 : decode cX11_move 24 = .ok (.iload_n 3, 1) := by decide +kernel
theorem dX11_move_25 : decode cX11_move 25 = .ok (.iadd, 1) := by decide +kernel
theorem dX11_move_26 : decode cX11_move 26 = .ok (.iaload, 1) := by decide +kernel
theorem dX11_move_27 : decode cX11_move 27 = .ok (.iload_n 2, 1) := by decide +kernel
theorem dX11_move_28 : decode cX11_move 28 = .ok (.if_icmp .eq 12, 3) := by decide +kernel
theorem dX11_move_31 : decode cX11_move 31 = .ok (.aload_n 0, 1) := by decide +kernel
theorem dX11_move_32 : decode cX11_move 32 = .ok (.iload_n 3, 1) := by decide +kernel
theorem dX11_move_33 : decode cX11_move 33 = .ok (.invokevirtual 79, 3) := by decide +kernel
theorem dX11_move_36 : decode cX11_move 36 = .ok (.iconst (-1), 1) := by decide +kernel
theorem dX11_move_37 : decode cX11_move 37 = .ok (.if_icmp .eq 5, 3) := by decide +kernel
theorem dX11_move_40 : decode cX11_move 40 = .ok (.iconst (-1), 1) := by decide +kernel
theorem dX11_move_41 : decode cX11_move 41 = .ok (.ireturn, 1) := by decide +kernel
theorem dX11_move_42 : decode cX11_move 42 = .ok (.aload_n 0, 1) := by decide +kernel
theorem dX11_move_43 : decode cX11_move 43 = .ok (.getfield 7, 3) := by decide +kernel
theorem dX11_move_46 : decode cX11_move 46 = .ok (.iconst 4, 1) := by decide +kernel
theorem dX11_move_47 : decode cX11_move 47 = .ok (.iload_n 2, 1) := by decide +kernel
theorem dX11_move_48 : decode cX11_move 48 = .ok (.iadd, 1) := by decide +kernel
theorem dX11_move_49 : decode cX11_move 49 = .ok (.iaload, 1) := by decide +kernel
theorem dX11_move_50 : decode cX11_move 50 = .ok (.ifCond .eq 41, 3) := by decide +kernel
theorem dX11_move_53 : decode cX11_move 53 = .ok (.aload_n 0, 1) := by decide +kernel
theorem dX11_move_54 : decode cX11_move 54 = .ok (.getfield 7, 3) := by decide +kernel
theorem dX11_move_57 : decode cX11_move 57 = .ok (.iconst 4, 1) := by decide +kernel
theorem dX11_move_58 : decode cX11_move 58 = .ok (.aload_n 0, 1) := by decide +kernel
theorem dX11_move_59 : decode cX11_move 59 = .ok (.getfield 7, 3) := by decide +kernel
theorem dX11_move_62 : decode cX11_move 62 = .ok (.bipush 42, 2) := by decide +kernel
theorem dX11_move_64 : decode cX11_move 64 = .ok (.iload_n 3, 1) := by decide +kernel
theorem dX11_move_65 : decode cX11_move 65 = .ok (.iadd, 1) := by decide +kernel
theorem dX11_move_66 : decode cX11_move 66 = .ok (.iaload, 1) := by decide +kernel
theorem dX11_move_67 : decode cX11_move 67 = .ok (.iadd, 1) := by decide +kernel
theorem dX11_move_68 : decode cX11_move 68 = .ok (.iaload, 1) := by decide +kernel
theorem dX11_move_69 : decode cX11_move 69 = .ok (.ifCond .eq 22, 3) := by decide +kernel
theorem dX11_move_72 : decode cX11_move 72 = .ok (.aload_n 0, 1) := by decide +kernel
theorem dX11_move_73 : decode cX11_move 73 = .ok (.getfield 7, 3) := by decide +kernel
theorem dX11_move_76 : decode cX11_move 76 = .ok (.iconst 3, 1) := by decide +kernel
theorem dX11_move_77 : decode cX11_move 77 = .ok (.iaload, 1) := by decide +kernel
theorem dX11_move_78 : decode cX11_move 78 = .ok (.bipush 12, 2) := by decide +kernel
theorem dX11_move_80 : decode cX11_move 80 = .ok (.if_icmp .eq 11, 3) := by decide +kernel
theorem dX11_move_83 : decode cX11_move 83 = .ok (.aload_n 0, 1) := by decide +kernel
theorem dX11_move_84 : decode cX11_move 84 = .ok (.invokevirtual 164, 3) := by decide +kernel
theorem dX11_move_87 : decode cX11_move 87 = .ok (.iconst 4, 1) := by decide +kernel
theorem dX11_move_88 : decode cX11_move 88 = .ok (.if_icmp .ne 5, 3) := by decide +kernel
theorem dX11_move_91 : decode cX11_move 91 = .ok (.iconst (-1), 1) := by decide +kernel
theorem dX11_move_92 : decode cX11_move 92 = .ok (.ireturn, 1) := by decide +kernel
theorem dX11_move_93 : decode cX11_move 93 = .ok (.aload_n 0, 1) := by decide +kernel
theorem dX11_move_94 : decode cX11_move 94 = .ok (.invokevirtual 86, 3) := by decide +kernel
theorem dX11_move_97 : decode cX11_move 97 = .ok (.aload_n 0, 1) := by decide +kernel
theorem dX11_move_98 : decode cX11_move 98 = .ok (.getfield 7, 3) := by decide +kernel
theorem dX11_move_101 : decode cX11_move 101 = .ok (.iconst 3, 1) := by decide +kernel
theorem dX11_move_102 : decode cX11_move 102 = .ok (.iaload, 1) := by decide +kernel
theorem dX11_move_103 : decode cX11_move 103 = .ok (.invokestatic 62, 3) := by decide +kernel
theorem dX11_move_106 : decode cX11_move 106 = .ok (.istore 4, 2) := by decide +kernel
theorem dX11_move_108 : decode cX11_move 108 = .ok (.iconst 0, 1) := by decide +kernel
theorem dX11_move_109 : decode cX11_move 109 = .ok (.istore 5, 2) := by decide +kernel
theorem dX11_move_111 : decode cX11_move 111 = .ok (.iload 5, 2) := by decide +kernel
theorem dX11_move_113 : decode cX11_move 113 = .ok (.bipush 72, 2) := by decide +kernel
theorem dX11_move_115 : decode cX11_move 115 = .ok (.if_icmp .ge 20, 3) := by decide +kernel
theorem dX11_move_118 : decode cX11_move 118 = .ok (.aload_n 0, 1) := by decide +kernel
theorem dX11_move_119 : decode cX11_move 119 = .ok (.getfield 7, 3) := by decide +kernel
theorem dX11_move_122 : decode cX11_move 122 = .ok (.iload 4, 2) := by decide +kernel
theorem dX11_move_124 : decode cX11_move 124 = .ok (.iload 5, 2) := by decide +kernel
theorem dX11_move_126 : decode cX11_move 126 = .ok (.iadd, 1) := by decide +kernel
theorem dX11_move_127 : decode cX11_move 127 = .ok (.iconst 0, 1) := by decide +kernel
theorem dX11_move_128 : decode cX11_move 128 = .ok (.iastore, 1) := by decide +kernel
theorem dX11_move_129 : decode cX11_move 129 = .ok (.iinc 5 1, 3) := by decide +kernel
theorem dX11_move_132 : decode cX11_move 132 = .ok (.goto (-21), 3) := by decide +kernel
theorem dX11_move_135 : decode cX11_move 135 = .ok (.aload_n 0, 1) := by decide +kernel
theorem dX11_move_136 : decode cX11_move 136 = .ok (.getfield 7, 3) := by decide +kernel
theorem dX11_move_139 : decode cX11_move 139 = .ok (.iload 4, 2) := by decide +kernel
theorem dX11_move_141 : decode cX11_move 141 = .ok (.iconst 0, 1) := by decide +kernel
theorem dX11_move_142 : decode cX11_move 142 = .ok (.iadd, 1) := by decide +kernel
theorem dX11_move_143 : decode cX11_move 143 = .ok (.iconst 1, 1) := by decide +kernel
theorem dX11_move_144 : decode cX11_move 144 = .ok (.iastore, 1) := by decide +kernel
theorem dX11_move_145 : decode cX11_move 145 = .ok (.aload_n 0, 1) := by decide +kernel
theorem dX11_move_146 : decode cX11_move 146 = .ok (.getfield 7, 3) := by decide +kernel
theorem dX11_move_149 : decode cX11_move 149 = .ok (.iload 4, 2) := by decide +kernel
theorem dX11_move_151 : decode cX11_move 151 = .ok (.iconst 1, 1) := by decide +kernel
theorem dX11_move_152 : decode cX11_move 152 = .ok (.iadd, 1) := by decide +kernel
theorem dX11_move_153 : decode cX11_move 153 = .ok (.iload_n 1, 1) := by decide +kernel
theorem dX11_move_154 : decode cX11_move 154 = .ok (.iastore, 1) := by decide +kernel
theorem dX11_move_155 : decode cX11_move 155 = .ok (.aload_n 0, 1) := by decide +kernel
theorem dX11_move_156 : decode cX11_move 156 = .ok (.getfield 7, 3) := by decide +kernel
theorem dX11_move_159 : decode cX11_move 159 = .ok (.iload 4, 2) := by decide +kernel
theorem dX11_move_161 : decode cX11_move 161 = .ok (.iconst 2, 1) := by decide +kernel
theorem dX11_move_162 : decode cX11_move 162 = .ok (.iadd, 1) := by decide +kernel
theorem dX11_move_163 : decode cX11_move 163 = .ok (.aload_n 0, 1) := by decide +kernel
theorem dX11_move_164 : decode cX11_move 164 = .ok (.iload_n 3, 1) := by decide +kernel
theorem dX11_move_165 : decode cX11_move 165 = .ok (.invokevirtual 70, 3) := by decide +kernel
theorem dX11_move_168 : decode cX11_move 168 = .ok (.iastore, 1) := by decide +kernel
theorem dX11_move_169 : decode cX11_move 169 = .ok (.aload_n 0, 1) := by decide +kernel
theorem dX11_move_170 : decode cX11_move 170 = .ok (.getfield 7, 3) := by decide +kernel
theorem dX11_move_173 : decode cX11_move 173 = .ok (.iload 4, 2) := by decide +kernel
theorem dX11_move_175 : decode cX11_move 175 = .ok (.iconst 3, 1) := by decide +kernel
theorem dX11_move_176 : decode cX11_move 176 = .ok (.iadd, 1) := by decide +kernel
theorem dX11_move_177 : decode cX11_move 177 = .ok (.aload_n 0, 1) := by decide +kernel
theorem dX11_move_178 : decode cX11_move 178 = .ok (.getfield 7, 3) := by decide +kernel
theorem dX11_move_181 : decode cX11_move 181 = .ok (.bipush 42, 2) := by decide +kernel
theorem dX11_move_183 : decode cX11_move 183 = .ok (.iload_n 3, 1) := by decide +kernel
theorem dX11_move_184 : decode cX11_move 184 = .ok (.iadd, 1) := by decide +kernel
theorem dX11_move_185 : decode cX11_move 185 = .ok (.iaload, 1) := by decide +kernel
theorem dX11_move_186 : decode cX11_move 186 = .ok (.iastore, 1) := by decide +kernel
theorem dX11_move_187 : decode cX11_move 187 = .ok (.aload_n 0, 1) := by decide +kernel
theorem dX11_move_188 : decode cX11_move 188 = .ok (.getfield 7, 3) := by decide +kernel
theorem dX11_move_191 : decode cX11_move 191 = .ok (.iload 4, 2) := by decide +kernel
theorem dX11_move_193 : decode cX11_move 193 = .ok (.iconst 4, 1) := by decide +kernel
theorem dX11_move_194 : decode cX11_move 194 = .ok (.iadd, 1) := by decide +kernel
theorem dX11_move_195 : decode cX11_move 195 = .ok (.iload_n 2, 1) := by decide +kernel
theorem dX11_move_196 : decode cX11_move 196 = .ok (.iastore, 1) := by decide +kernel
theorem dX11_move_197 : decode cX11_move 197 = .ok (.aload_n 0, 1) := by decide +kernel
theorem dX11_move_198 : decode cX11_move 198 = .ok (.getfield 7, 3) := by decide +kernel
theorem dX11_move_201 : decode cX11_move 201 = .ok (.iload 4, 2) := by decide +kernel
theorem dX11_move_203 : decode cX11_move 203 = .ok (.iconst 5, 1) := by decide +kernel
theorem dX11_move_204 : decode cX11_move 204 = .ok (.iadd, 1) := by decide +kernel
theorem dX11_move_205 : decode cX11_move 205 = .ok (.iload_n 1, 1) := by decide +kernel
theorem dX11_move_206 : decode cX11_move 206 = .ok (.iastore, 1) := by decide +kernel
theorem dX11_move_207 : decode cX11_move 207 = .ok (.aload_n 0, 1) := by decide +kernel
theorem dX11_move_208 : decode cX11_move 208 = .ok (.getfield 7, 3) := by decide +kernel
theorem dX11_move_211 : decode cX11_move 211 = .ok (.iconst 3, 1) := by decide +kernel
theorem dX11_move_212 : decode cX11_move 212 = .ok (.dup2, 1) := by decide +kernel
theorem dX11_move_213 : decode cX11_move 213 = .ok (.iaload, 1) := by decide +kernel
theorem dX11_move_214 : decode cX11_move 214 = .ok (.iconst 1, 1) := by decide +kernel
theorem dX11_move_215 : decode cX11_move 215 = .ok (.iadd, 1) := by decide +kernel
theorem dX11_move_216 : decode cX11_move 216 = .ok (.iastore, 1) := by decide +kernel
theorem dX11_move_217 : decode cX11_move 217 = .ok (.aload_n 0, 1) := by decide +kernel
theorem dX11_move_218 : decode cX11_move 218 = .ok (.bipush 8, 2) := by decide +kernel
theorem dX11_move_220 : decode cX11_move 220 = .ok (.iconst 1, 1) := by decide +kernel
theorem dX11_move_221 : decode cX11_move 221 = .ok (.invokevirtual 97, 3) := by decide +kernel
theorem dX11_move_224 : decode cX11_move 224 = .ok (.aload_n 0, 1) := by decide +kernel
theorem dX11_move_225 : decode cX11_move 225 = .ok (.getfield 7, 3) := by decide +kernel
theorem dX11_move_228 : decode cX11_move 228 = .ok (.iconst 3, 1) := by decide +kernel
theorem dX11_move_229 : decode cX11_move 229 = .ok (.iaload, 1) := by decide +kernel
theorem dX11_move_230 : decode cX11_move 230 = .ok (.iconst 1, 1) := by decide +kernel
theorem dX11_move_231 : decode cX11_move 231 = .ok (.isub, 1) := by decide +kernel
theorem dX11_move_232 : decode cX11_move 232 = .ok (.ireturn, 1) := by decide +kernel
theorem dX11_goesOver_0 : decode cX11_goesOver 0 = .ok (.iconst 0, 1) := by decide +kernel
theorem dX11_goesOver_1 : decode cX11_goesOver 1 = .ok (.istore 4, 2) := by decide +kernel
theorem dX11_goesOver_3 : decode cX11_goesOver 3 = .ok (.aload_n 0, 1) := by decide +kernel
theorem dX11_goesOver_4 : decode cX11_goesOver 4 = .ok (.getfield 7, 3) := by decide +kernel
theorem dX11_goesOver_7 : decode cX11_goesOver 7 = .ok (.iload_n 1, 1) := by decide +kernel
theorem dX11_goesOver_8 : decode cX11_goesOver 8 = .ok (.iconst 5, 1) := by decide +kernel
theorem dX11_goesOver_9 : decode cX11_goesOver 9 = .ok (.iadd, 1) := by decide +kernel
theorem dX11_goesOver_10 : decode cX11_goesOver 10 = .ok (.iaload, 1) := by decide +kernel
theorem dX11_goesOver_11 : decode cX11_goesOver 11 = .ok (.istore 5, 2) := by decide +kernel
theorem dX11_goesOver_13 : decode cX11_goesOver 13 = .ok (.iload 5, 2) := by decide +kernel
theorem dX11_goesOver_15 : decode cX11_goesOver 15 = .ok (.istore 6, 2) := by decide +kernel
theorem dX11_goesOver_17 : decode cX11_goesOver 17 = .ok (.iload 6, 2) := by decide +kernel
theorem dX11_goesOver_19 : decode cX11_goesOver 19 = .ok (.aload_n 0, 1) := by decide +kernel
theorem dX11_goesOver_20 : decode cX11_goesOver 20 = .ok (.getfield 7, 3) := by decide +kernel
theorem dX11_goesOver_23 : decode cX11_goesOver 23 = .ok (.iload_n 1, 1) := by decide +kernel
theorem dX11_goesOver_24 : decode cX11_goesOver 24 = .ok (.iconst 2, 1) := by decide +kernel
theorem dX11_goesOver_25 : decode cX11_goesOver 25 = .ok (.iadd, 1) := by decide +kernel
theorem dX11_goesOver_26 : decode cX11_goesOver 26 = .ok (.iaload, 1) := by decide +kernel
theorem dX11_goesOver_27 : decode cX11_goesOver 27 = .ok (.if_icmp .ge 98, 3) := by decide +kernel
theorem dX11_goesOver_30 : decode cX11_goesOver 30 = .ok (.iload 4, 2) := by decide +kernel
theorem dX11_goesOver_32 : decode cX11_goesOver 32 = .ok (.iload_n 2, 1) := by decide +kernel
theorem dX11_goesOver_33 : decode cX11_goesOver 33 = .ok (.if_icmp .ge 92, 3) := by decide +kernel
theorem dX11_goesOver_36 : decode cX11_goesOver 36 = .ok (.aload_n 0, 1) := by decide +kernel
theorem dX11_goesOver_37 : decode cX11_goesOver 37 = .ok (.getfield 7, 3) := by decide +kernel
theorem dX11_goesOver_40 : decode cX11_goesOver 40 = .ok (.iload_n 1, 1) := by decide +kernel
theorem dX11_goesOver_41 : decode cX11_goesOver 41 = .ok (.iconst 3, 1) := by decide +kernel
theorem dX11_goesOver_42 : decode cX11_goesOver 42 = .ok (.iadd, 1) := by decide +kernel
theorem dX11_goesOver_43 : decode cX11_goesOver 43 = .ok (.iaload, 1) := by decide +kernel
theorem dX11_goesOver_44 : decode cX11_goesOver 44 = .ok (.iload 6, 2) := by decide +kernel
theorem dX11_goesOver_46 : decode cX11_goesOver 46 = .ok (.invokestatic 136, 3) := by decide +kernel
theorem dX11_goesOver_49 : decode cX11_goesOver 49 = .ok (.istore 7, 2) := by decide +kernel
theorem dX11_goesOver_51 : decode cX11_goesOver 51 = .ok (.aload_n 0, 1) := by decide +kernel
theorem dX11_goesOver_52 : decode cX11_goesOver 52 = .ok (.getfield 7, 3) := by decide +kernel
theorem dX11_goesOver_55 : decode cX11_goesOver 55 = .ok (.iload 7, 2) := by decide +kernel
theorem dX11_goesOver_57 : decode cX11_goesOver 57 = .ok (.iaload, 1) := by decide +kernel
theorem dX11_goesOver_58 : decode cX11_goesOver 58 = .ok (.ifCond .ne 6, 3) := by decide +kernel
theorem dX11_goesOver_61 : decode cX11_goesOver 61 = .ok (.goto 58, 3) := by decide +kernel
theorem dX11_goesOver_64 : decode cX11_goesOver 64 = .ok (.iload_n 3, 1) := by decide +kernel
theorem dX11_goesOver_65 : decode cX11_goesOver 65 = .ok (.ifCond .eq 14, 3) := by decide +kernel
theorem dX11_goesOver_68 : decode cX11_goesOver 68 = .ok (.aload_n 0, 1) := by decide +kernel
theorem dX11_goesOver_69 : decode cX11_goesOver 69 = .ok (.getfield 7, 3) := by decide +kernel
theorem dX11_goesOver_72 : decode cX11_goesOver 72 = .ok (.iload 7, 2) := by decide +kernel
theorem dX11_goesOver_74 : decode cX11_goesOver 74 = .ok (.iconst 0, 1) := by decide +kernel
theorem dX11_goesOver_75 : decode cX11_goesOver 75 = .ok (.iastore, 1) := by decide +kernel
theorem dX11_goesOver_76 : decode cX11_goesOver 76 = .ok (.goto 28, 3) := by decide +kernel
theorem dX11_goesOver_79 : decode cX11_goesOver 79 = .ok (.aload_n 0, 1) := by decide +kernel
theorem dX11_goesOver_80 : decode cX11_goesOver 80 = .ok (.getfield 7, 3) := by decide +kernel
theorem dX11_goesOver_83 : decode cX11_goesOver 83 = .ok (.aload_n 0, 1) := by decide +kernel
theorem dX11_goesOver_84 : decode cX11_goesOver 84 = .ok (.getfield 7, 3) := by decide +kernel
theorem dX11_goesOver_87 : decode cX11_goesOver 87 = .ok (.iload_n 1, 1) := by decide +kernel
theorem dX11_goesOver_88 : decode cX11_goesOver 88 = .ok (.iconst 4, 1) := by decide +kernel
theorem dX11_goesOver_89 : decode cX11_goesOver 89 = .ok (.iadd, 1) := by decide +kernel
theorem dX11_goesOver_90 : decode cX11_goesOver 90 = .ok (.iaload, 1) := by decide +kernel
theorem dX11_goesOver_91 : decode cX11_goesOver 91 = .ok (.iload 6, 2) := by decide +kernel
theorem dX11_goesOver_93 : decode cX11_goesOver 93 = .ok (.invokestatic 136, 3) := by decide +kernel
theorem dX11_goesOver_96 : decode cX11_goesOver 96 = .ok (.aload_n 0, 1) := by decide +kernel
theorem dX11_goesOver_97 : decode cX11_goesOver 97 = .ok (.getfield 7, 3) := by decide +kernel
theorem dX11_goesOver_100 : decode cX11_goesOver 100 = .ok (.iload 7, 2) := by decide +kernel
theorem dX11_goesOver_102 : decode cX11_goesOver 102 = .ok (.iaload, 1) := by decide +kernel
