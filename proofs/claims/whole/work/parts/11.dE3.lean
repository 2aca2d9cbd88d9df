theorem dX11_valuesIn_9 : decode cX11_valuesIn 9 = .ok (.iadd, 1) := by decide +kernel
theorem dX11_valuesIn_10 : decode cX11_valuesIn 10 = .ok (.iaload, 1) := by decide +kernel
theorem dX11_valuesIn_11 : decode cX11_valuesIn 11 = .ok (.istore_n 3, 1) := by decide +kernel
theorem dX11_valuesIn_12 : decode cX11_valuesIn 12 = .ok (.iload_n 3, 1) := by decide +kernel
theorem dX11_valuesIn_13 : decode cX11_valuesIn 13 = .ok (.aload_n 0, 1) := by decide +kernel
theorem dX11_valuesIn_14 : decode cX11_valuesIn 14 = .ok (.iload_n 1, 1) := by decide +kernel
theorem dX11_valuesIn_15 : decode cX11_valuesIn 15 = .ok (.invokevirtual 70, 3) := by decide +kernel
theorem dX11_valuesIn_18 : decode cX11_valuesIn 18 = .ok (.if_icmp .ge 38, 3) := by decide +kernel
theorem dX11_valuesIn_21 : decode cX11_valuesIn 21 = .ok (.iload_n 2, 1) := by decide +kernel
theorem dX11_valuesIn_22 : decode cX11_valuesIn 22 = .ok (.aload_n 0, 1) := by decide +kernel
theorem dX11_valuesIn_23 : decode cX11_valuesIn 23 = .ok (.getfield 7, 3) := by decide +kernel
theorem dX11_valuesIn_26 : decode cX11_valuesIn 26 = .ok (.aload_n 0, 1) := by decide +kernel
theorem dX11_valuesIn_27 : decode cX11_valuesIn 27 = .ok (.getfield 7, 3) := by decide +kernel
theorem dX11_valuesIn_30 : decode cX11_valuesIn 30 = .ok (.bipush 42, 2) := by decide +kernel
theorem dX11_valuesIn_32 : decode cX11_valuesIn 32 = .ok (.iload_n 1, 1) := by decide +kernel
theorem dX11_valuesIn_33 : decode cX11_valuesIn 33 = .ok (.iadd, 1) := by decide +kernel
theorem dX11_valuesIn_34 : decode cX11_valuesIn 34 = .ok (.iaload, 1) := by decide +kernel
theorem dX11_valuesIn_35 : decode cX11_valuesIn 35 = .ok (.iload_n 3, 1) := by decide +kernel
theorem dX11_valuesIn_36 : decode cX11_valuesIn 36 = .ok (.invokestatic 136, 3) := by decide +kernel
theorem dX11_valuesIn_39 : decode cX11_valuesIn 39 = .ok (.iaload, 1) := by decide +kernel
theorem dX11_valuesIn_40 : decode cX11_valuesIn 40 = .ok (.ifCond .le 7, 3) := by decide +kernel
theorem dX11_valuesIn_43 : decode cX11_valuesIn 43 = .ok (.iconst 1, 1) := by decide +kernel
theorem dX11_valuesIn_44 : decode cX11_valuesIn 44 = .ok (.goto 4, 3) := by decide +kernel
theorem dX11_valuesIn_47 : decode cX11_valuesIn 47 = .ok (.iconst 0, 1) := by decide +kernel
theorem dX11_valuesIn_48 : decode cX11_valuesIn 48 = .ok (.iadd, 1) := by decide +kernel
theorem dX11_valuesIn_49 : decode cX11_valuesIn 49 = .ok (.istore_n 2, 1) := by decide +kernel
theorem dX11_valuesIn_50 : decode cX11_valuesIn 50 = .ok (.iinc 3 1, 3) := by decide +kernel
theorem dX11_valuesIn_53 : decode cX11_valuesIn 53 = .ok (.goto (-41), 3) := by decide +kernel
theorem dX11_valuesIn_56 : decode cX11_valuesIn 56 = .ok (.iload_n 2, 1) := by decide +kernel
theorem dX11_valuesIn_57 : decode cX11_valuesIn 57 = .ok (.ireturn, 1) := by decide +kernel
theorem dX11_isFrozenSpan_0 : decode cX11_isFrozenSpan 0 = .ok (.aload_n 0, 1) := by decide +kernel
theorem dX11_isFrozenSpan_1 : decode cX11_isFrozenSpan 1 = .ok (.iload_n 1, 1) := by decide +kernel
theorem dX11_isFrozenSpan_2 : decode cX11_isFrozenSpan 2 = .ok (.invokevirtual 79, 3) := by decide +kernel
theorem dX11_isFrozenSpan_5 : decode cX11_isFrozenSpan 5 = .ok (.istore_n 2, 1) := by decide +kernel
theorem dX11_isFrozenSpan_6 : decode cX11_isFrozenSpan 6 = .ok (.iload_n 2, 1) := by decide +kernel
theorem dX11_isFrozenSpan_7 : decode cX11_isFrozenSpan 7 = .ok (.iconst (-1), 1) := by decide +kernel
theorem dX11_isFrozenSpan_8 : decode cX11_isFrozenSpan 8 = .ok (.if_icmp .eq 22, 3) := by decide +kernel
theorem dX11_isFrozenSpan_11 : decode cX11_isFrozenSpan 11 = .ok (.aload_n 0, 1) := by decide +kernel
theorem dX11_isFrozenSpan_12 : decode cX11_isFrozenSpan 12 = .ok (.getfield 7, 3) := by decide +kernel
theorem dX11_isFrozenSpan_15 : decode cX11_isFrozenSpan 15 = .ok (.iload_n 2, 1) := by decide +kernel
theorem dX11_isFrozenSpan_16 : decode cX11_isFrozenSpan 16 = .ok (.invokestatic 62, 3) := by decide +kernel
theorem dX11_isFrozenSpan_19 : decode cX11_isFrozenSpan 19 = .ok (.iconst 0, 1) := by decide +kernel
theorem dX11_isFrozenSpan_20 : decode cX11_isFrozenSpan 20 = .ok (.iadd, 1) := by decide +kernel
theorem dX11_isFrozenSpan_21 : decode cX11_isFrozenSpan 21 = .ok (.iaload, 1) := by decide +kernel
theorem dX11_isFrozenSpan_22 : decode cX11_isFrozenSpan 22 = .ok (.iconst 3, 1) := by decide +kernel
theorem dX11_isFrozenSpan_23 : decode cX11_isFrozenSpan 23 = .ok (.if_icmp .ne 7, 3) := by decide +kernel
theorem dX11_isFrozenSpan_26 : decode cX11_isFrozenSpan 26 = .ok (.iconst 1, 1) := by decide +kernel
theorem dX11_isFrozenSpan_27 : decode cX11_isFrozenSpan 27 = .ok (.goto 4, 3) := by decide +kernel
theorem dX11_isFrozenSpan_30 : decode cX11_isFrozenSpan 30 = .ok (.iconst 0, 1) := by decide +kernel
theorem dX11_isFrozenSpan_31 : decode cX11_isFrozenSpan 31 = .ok (.ireturn, 1) := by decide +kernel
theorem dX11_span_0 : decode cX11_span 0 = .ok (.iload_n 1, 1) := by decide +kernel
theorem dX11_span_1 : decode cX11_span 1 = .ok (.iconst (-1), 1) := by decide +kernel
theorem dX11_span_2 : decode cX11_span 2 = .ok (.if_icmp .ne 10, 3) := by decide +kernel
theorem dX11_span_5 : decode cX11_span 5 = .ok (.aload_n 0, 1) := by decide +kernel
theorem dX11_span_6 : decode cX11_span 6 = .ok (.getfield 7, 3) := by decide +kernel
theorem dX11_span_9 : decode cX11_span 9 = .ok (.iconst 1, 1) := by decide +kernel
theorem dX11_span_10 : decode cX11_span 10 = .ok (.iaload, 1) := by decide +kernel
theorem dX11_span_11 : decode cX11_span 11 = .ok (.ireturn, 1) := by decide +kernel
theorem dX11_span_12 : decode cX11_span 12 = .ok (.aload_n 0, 1) := by decide +kernel
theorem dX11_span_13 : decode cX11_span 13 = .ok (.iload_n 1, 1) := by decide +kernel
theorem dX11_span_14 : decode cX11_span 14 = .ok (.invokevirtual 317, 3) := by decide +kernel
theorem dX11_span_17 : decode cX11_span 17 = .ok (.ifCond .ne 5, 3) := by decide +kernel
theorem dX11_span_20 : decode cX11_span 20 = .ok (.iconst (-1), 1) := by decide +kernel
theorem dX11_span_21 : decode cX11_span 21 = .ok (.ireturn, 1) := by decide +kernel
theorem dX11_span_22 : decode cX11_span 22 = .ok (.iload_n 2, 1) := by decide +kernel
theorem dX11_span_23 : decode cX11_span 23 = .ok (.tableswitch 103 0 6 #[41, 51, 57, 67, 77, 83, 97], 41) := by decide +kernel
theorem dX11_span_64 : decode cX11_span 64 = .ok (.aload_n 0, 1) := by decide +kernel
theorem dX11_span_65 : decode cX11_span 65 = .ok (.getfield 7, 3) := by decide +kernel
theorem dX11_span_68 : decode cX11_span 68 = .ok (.bipush 10, 2) := by decide +kernel
theorem dX11_span_70 : decode cX11_span 70 = .ok (.iload_n 1, 1) := by decide +kernel
theorem dX11_span_71 : decode cX11_span 71 = .ok (.iadd, 1) := by decide +kernel
theorem dX11_span_72 : decode cX11_span 72 = .ok (.iaload, 1) := by decide +kernel
theorem dX11_span_73 : decode cX11_span 73 = .ok (.ireturn, 1) := by decide +kernel
theorem dX11_span_74 : decode cX11_span 74 = .ok (.aload_n 0, 1) := by decide +kernel
theorem dX11_span_75 : decode cX11_span 75 = .ok (.iload_n 1, 1) := by decide +kernel
theorem dX11_span_76 : decode cX11_span 76 = .ok (.invokevirtual 70, 3) := by decide +kernel
theorem dX11_span_79 : decode cX11_span 79 = .ok (.ireturn, 1) := by decide +kernel
theorem dX11_span_80 : decode cX11_span 80 = .ok (.aload_n 0, 1) := by decide +kernel
theorem dX11_span_81 : decode cX11_span 81 = .ok (.getfield 7, 3) := by decide +kernel
theorem dX11_span_84 : decode cX11_span 84 = .ok (.bipush 42, 2) := by decide +kernel
theorem dX11_span_86 : decode cX11_span 86 = .ok (.iload_n 1, 1) := by decide +kernel
theorem dX11_span_87 : decode cX11_span 87 = .ok (.iadd, 1) := by decide +kernel
theorem dX11_span_88 : decode cX11_span 88 = .ok (.iaload, 1) := by decide +kernel
theorem dX11_span_89 : decode cX11_span 89 = .ok (.ireturn, 1) := by decide +kernel
theorem dX11_span_90 : decode cX11_span 90 = .ok (.aload_n 0, 1) := by decide +kernel
theorem dX11_span_91 : decode cX11_span 91 = .ok (.getfield 7, 3) := by decide +kernel
theorem dX11_span_94 : decode cX11_span 94 = .ok (.bipush 74, 2) := by decide +kernel
theorem dX11_span_96 : decode cX11_span 96 = .ok (.iload_n 1, 1) := by decide +kernel
theorem dX11_span_97 : decode cX11_span 97 = .ok (.iadd, 1) := by decide +kernel
theorem dX11_span_98 : decode cX11_span 98 = .ok (.iaload, 1) := by decide +kernel
theorem dX11_span_99 : decode cX11_span 99 = .ok (.ireturn, 1) := by decide +kernel
theorem dX11_span_100 : decode cX11_span 100 = .ok (.aload_n 0, 1) := by decide +kernel
theorem dX11_span_101 : decode cX11_span 101 = .ok (.iload_n 1, 1) := by decide +kernel
theorem dX11_span_102 : decode cX11_span 102 = .ok (.invokevirtual 79, 3) := by decide +kernel
theorem dX11_span_105 : decode cX11_span 105 = .ok (.ireturn, 1) := by decide +kernel
theorem dX11_span_106 : decode cX11_span 106 = .ok (.aload_n 0, 1) := by decide +kernel
theorem dX11_span_107 : decode cX11_span 107 = .ok (.iload_n 1, 1) := by decide +kernel
theorem dX11_span_108 : decode cX11_span 108 = .ok (.invokevirtual 320, 3) := by decide +kernel
theorem dX11_span_111 : decode cX11_span 111 = .ok (.ifCond .eq 7, 3) := by decide +kernel
theorem dX11_span_114 : decode cX11_span 114 = .ok (.iconst 1, 1) := by decide +kernel
theorem dX11_span_115 : decode cX11_span 115 = .ok (.goto 4, 3) := by decide +kernel
theorem dX11_span_118 : decode cX11_span 118 = .ok (.iconst 0, 1) := by decide +kernel
theorem dX11_span_119 : decode cX11_span 119 = .ok (.ireturn, 1) := by decide +kernel
theorem dX11_span_120 : decode cX11_span 120 = .ok (.aload_n 0, 1) := by decide +kernel
theorem dX11_span_121 : decode cX11_span 121 = .ok (.iload_n 1, 1) := by decide +kernel
theorem dX11_span_122 : decode cX11_span 122 = .ok (.invokevirtual 323, 3) := by decide +kernel
theorem dX11_span_125 : decode cX11_span 125 = .ok (.ireturn, 1) := by decide +kernel
theorem dX11_span_126 : decode cX11_span 126 = .ok (.iconst (-1), 1) := by decide +kernel
theorem dX11_span_127 : decode cX11_span 127 = .ok (.ireturn, 1) := by decide +kernel
theorem dX11_weight_0 : decode cX11_weight 0 = .ok (.aload_n 0, 1) := by decide +kernel
theorem dX11_weight_1 : decode cX11_weight 1 = .ok (.iload_n 1, 1) := by decide +kernel
theorem dX11_weight_2 : decode cX11_weight 2 = .ok (.invokevirtual 317, 3) := by decide +kernel
theorem dX11_weight_5 : decode cX11_weight 5 = .ok (.ifCond .eq 11, 3) := by decide +kernel
theorem dX11_weight_8 : decode cX11_weight 8 = .ok (.aload_n 0, 1) := by decide +kernel
theorem dX11_weight_9 : decode cX11_weight 9 = .ok (.iload_n 1, 1) := by decide +kernel
theorem dX11_weight_10 : decode cX11_weight 10 = .ok (.invokevirtual 73, 3) := by decide +kernel
theorem dX11_weight_13 : decode cX11_weight 13 = .ok (.goto 6, 3) := by decide +kernel
theorem dX11_weight_16 : decode cX11_weight 16 = .ok (.ldc2_w 326, 3) := by decide +kernel
theorem dX11_weight_19 : decode cX11_weight 19 = .ok (.lreturn, 1) := by decide +kernel
theorem dX11_middleOf_0 : decode cX11_middleOf 0 = .ok (.aload_n 0, 1) := by decide +kernel
theorem dX11_middleOf_1 : decode cX11_middleOf 1 = .ok (.iload_n 1, 1) := by decide +kernel
theorem dX11_middleOf_2 : decode cX11_middleOf 2 = .ok (.invokevirtual 317, 3) := by decide +kernel
theorem dX11_middleOf_5 : decode cX11_middleOf 5 = .ok (.ifCond .eq 11, 3) := by decide +kernel
theorem dX11_middleOf_8 : decode cX11_middleOf 8 = .ok (.aload_n 0, 1) := by decide +kernel
theorem dX11_middleOf_9 : decode cX11_middleOf 9 = .ok (.iload_n 1, 1) := by decide +kernel
theorem dX11_middleOf_10 : decode cX11_middleOf 10 = .ok (.invokevirtual 107, 3) := by decide +kernel
theorem dX11_middleOf_13 : decode cX11_middleOf 13 = .ok (.goto 4, 3) := by decide +kernel
theorem dX11_middleOf_16 : decode cX11_middleOf 16 = .ok (.iconst (-1), 1) := by decide +kernel
theorem dX11_middleOf_17 : decode cX11_middleOf 17 = .ok (.ireturn, 1) := by decide +kernel
theorem dX11_lowOf_0 : decode cX11_lowOf 0 = .ok (.iload_n 1, 1) := by decide +kernel
theorem dX11_lowOf_1 : decode cX11_lowOf 1 = .ok (.invokestatic 54, 3) := by decide +kernel
theorem dX11_lowOf_4 : decode cX11_lowOf 4 = .ok (.ifCond .eq 19, 3) := by decide +kernel
theorem dX11_lowOf_7 : decode cX11_lowOf 7 = .ok (.aload_n 0, 1) := by decide +kernel
theorem dX11_lowOf_8 : decode cX11_lowOf 8 = .ok (.getfield 7, 3) := by decide +kernel
theorem dX11_lowOf_11 : decode cX11_lowOf 11 = .ok (.bipush 10, 2) := by decide +kernel
theorem dX11_lowOf_13 : decode cX11_lowOf 13 = .ok (.aload_n 0, 1) := by decide +kernel
theorem dX11_lowOf_14 : decode cX11_lowOf 14 = .ok (.iload_n 1, 1) := by decide +kernel
theorem dX11_lowOf_15 : decode cX11_lowOf 15 = .ok (.invokevirtual 58, 3) := by decide +kernel
theorem dX11_lowOf_18 : decode cX11_lowOf 18 = .ok (.iadd, 1) := by decide +kernel
theorem dX11_lowOf_19 : decode cX11_lowOf 19 = .ok (.iaload, 1) := by decide +kernel
theorem dX11_lowOf_20 : decode cX11_lowOf 20 = .ok (.goto 4, 3) := by decide +kernel
theorem dX11_lowOf_23 : decode cX11_lowOf 23 = .ok (.iconst (-1), 1) := by decide +kernel
theorem dX11_lowOf_24 : decode cX11_lowOf 24 = .ok (.ireturn, 1) := by decide +kernel
theorem dX11_spansOf_0 : decode cX11_spansOf 0 = .ok (.iconst 0, 1) := by decide +kernel
theorem dX11_spansOf_1 : decode cX11_spansOf 1 = .ok (.istore_n 2, 1) := by decide +kernel
theorem dX11_spansOf_2 : decode cX11_spansOf 2 = .ok (.iconst 0, 1) := by decide +kernel
theorem dX11_spansOf_3 : decode cX11_spansOf 3 = .ok (.istore_n 3, 1) := by decide +kernel
theorem dX11_spansOf_4 : decode cX11_spansOf 4 = .ok (.iload_n 3, 1) := by decide +kernel
theorem dX11_spansOf_5 : decode cX11_spansOf 5 = .ok (.aload_n 0, 1) := by decide +kernel
theorem dX11_spansOf_6 : decode cX11_spansOf 6 = .ok (.getfield 7, 3) := by decide +kernel
theorem dX11_spansOf_9 : decode cX11_spansOf 9 = .ok (.iconst 1, 1) := by decide +kernel
theorem dX11_spansOf_10 : decode cX11_spansOf 10 = .ok (.iaload, 1) := by decide +kernel
theorem dX11_spansOf_11 : decode cX11_spansOf 11 = .ok (.if_icmp .ge 30, 3) := by decide +kernel
theorem dX11_spansOf_14 : decode cX11_spansOf 14 = .ok (.iload_n 2, 1) := by decide +kernel
theorem dX11_spansOf_15 : decode cX11_spansOf 15 = .ok (.aload_n 0, 1) := by decide +kernel
theorem dX11_spansOf_16 : decode cX11_spansOf 16 = .ok (.getfield 7, 3) := by decide +kernel
theorem dX11_spansOf_19 : decode cX11_spansOf 19 = .ok (.bipush 42, 2) := by decide +kernel
theorem dX11_spansOf_21 : decode cX11_spansOf 21 = .ok (.iload_n 3, 1) := by decide +kernel
theorem dX11_spansOf_22 : decode cX11_spansOf 22 = .ok (.iadd, 1) := by decide +kernel
theorem dX11_spansOf_23 : decode cX11_spansOf 23 = .ok (.iaload, 1) := by decide +kernel
theorem dX11_spansOf_24 : decode cX11_spansOf 24 = .ok (.iload_n 1, 1) := by decide +kernel
theorem dX11_spansOf_25 : decode cX11_spansOf 25 = .ok (.if_icmp .ne 7, 3) := by decide +kernel
theorem dX11_spansOf_28 : decode cX11_spansOf 28 = .ok (.iconst 1, 1) := by decide +kernel
theorem dX11_spansOf_29 : decode cX11_spansOf 29 = .ok (.goto 4, 3) := by decide +kernel
theorem dX11_spansOf_32 : decode cX11_spansOf 32 = .ok (.iconst 0, 1) := by decide +kernel
theorem dX11_spansOf_33 : decode cX11_spansOf 33 = .ok (.iadd, 1) := by decide +kernel
theorem dX11_spansOf_34 : decode cX11_spansOf 34 = .ok (.istore_n 2, 1) := by decide +kernel
theorem dX11_spansOf_35 : decode cX11_spansOf 35 = .ok (.iinc 3 1, 3) := by decide +kernel
theorem dX11_spansOf_38 : decode cX11_spansOf 38 = .ok (.goto (-34), 3) := by decide +kernel
theorem dX11_spansOf_41 : decode cX11_spansOf 41 = .ok (.iload_n 2, 1) := by decide +kernel
theorem dX11_spansOf_42 : decode cX11_spansOf 42 = .ok (.ireturn, 1) := by decide +kernel
theorem dX11_valuesOf_0 : decode cX11_valuesOf 0 = .ok (.iconst 0, 1) := by decide +kernel
theorem dX11_valuesOf_1 : decode cX11_valuesOf 1 = .ok (.istore_n 2, 1) := by decide +kernel
theorem dX11_valuesOf_2 : decode cX11_valuesOf 2 = .ok (.iconst 0, 1) := by decide +kernel
theorem dX11_valuesOf_3 : decode cX11_valuesOf 3 = .ok (.istore_n 3, 1) := by decide +kernel
theorem dX11_valuesOf_4 : decode cX11_valuesOf 4 = .ok (.iload_n 3, 1) := by decide +kernel
theorem dX11_valuesOf_5 : decode cX11_valuesOf 5 = .ok (.sipush 1000, 3) := by decide +kernel
theorem dX11_valuesOf_8 : decode cX11_valuesOf 8 = .ok (.if_icmp .ge 30, 3) := by decide +kernel
theorem dX11_valuesOf_11 : decode cX11_valuesOf 11 = .ok (.iload_n 2, 1) := by decide +kernel
theorem dX11_valuesOf_12 : decode cX11_valuesOf 12 = .ok (.aload_n 0, 1) := by decide +kernel
theorem dX11_valuesOf_13 : decode cX11_valuesOf 13 = .ok (.getfield 7, 3) := by decide +kernel
theorem dX11_valuesOf_16 : decode cX11_valuesOf 16 = .ok (.iload_n 1, 1) := by decide +kernel
theorem dX11_valuesOf_17 : decode cX11_valuesOf 17 = .ok (.iload_n 3, 1) := by decide +kernel
theorem dX11_valuesOf_18 : decode cX11_valuesOf 18 = .ok (.invokestatic 136, 3) := by decide +kernel
theorem dX11_valuesOf_21 : decode cX11_valuesOf 21 = .ok (.iaload, 1) := by decide +kernel
theorem dX11_valuesOf_22 : decode cX11_valuesOf 22 = .ok (.ifCond .le 7, 3) := by decide +kernel
theorem dX11_valuesOf_25 : decode cX11_valuesOf 25 = .ok (.iconst 1, 1) := by decide +kernel
theorem dX11_valuesOf_26 : decode cX11_valuesOf 26 = .ok (.goto 4, 3) := by decide +kernel
theorem dX11_valuesOf_29 : decode cX11_valuesOf 29 = .ok (.iconst 0, 1) := by decide +kernel
theorem dX11_valuesOf_30 : decode cX11_valuesOf 30 = .ok (.iadd, 1) := by decide +kernel
theorem dX11_valuesOf_31 : decode cX11_valuesOf 31 = .ok (.istore_n 2, 1) := by decide +kernel
theorem dX11_valuesOf_32 : decode cX11_valuesOf 32 = .ok (.iinc 3 1, 3) := by decide +kernel
theorem dX11_valuesOf_35 : decode cX11_valuesOf 35 = .ok (.goto (-31), 3) := by decide +kernel
theorem dX11_valuesOf_38 : decode cX11_valuesOf 38 = .ok (.iload_n 2, 1) := by decide +kernel
theorem dX11_valuesOf_39 : decode cX11_valuesOf 39 = .ok (.ireturn, 1) := by decide +kernel
theorem dX11_movesBy_0 : decode cX11_movesBy 0 = .ok (.iconst 0, 1) := by decide +kernel
theorem dX11_movesBy_1 : decode cX11_movesBy 1 = .ok (.istore_n 3, 1) := by decide +kernel
theorem dX11_movesBy_2 : decode cX11_movesBy 2 = .ok (.iconst 0, 1) := by decide +kernel
theorem dX11_movesBy_3 : decode cX11_movesBy 3 = .ok (.istore 4, 2) := by decide +kernel
theorem dX11_movesBy_5 : decode cX11_movesBy 5 = .ok (.iload 4, 2) := by decide +kernel
theorem dX11_movesBy_7 : decode cX11_movesBy 7 = .ok (.aload_n 0, 1) := by decide +kernel
theorem dX11_movesBy_8 : decode cX11_movesBy 8 = .ok (.getfield 7, 3) := by decide +kernel
theorem dX11_movesBy_11 : decode cX11_movesBy 11 = .ok (.iconst 3, 1) := by decide +kernel
theorem dX11_movesBy_12 : decode cX11_movesBy 12 = .ok (.iaload, 1) := by decide +kernel
theorem dX11_movesBy_13 : decode cX11_movesBy 13 = .ok (.if_icmp .ge 42, 3) := by decide +kernel
theorem dX11_movesBy_16 : decode cX11_movesBy 16 = .ok (.iload_n 3, 1) := by decide +kernel
theorem dX11_movesBy_17 : decode cX11_movesBy 17 = .ok (.aload_n 0, 1) := by decide +kernel
theorem dX11_movesBy_18 : decode cX11_movesBy 18 = .ok (.iload 4, 2) := by decide +kernel
theorem dX11_movesBy_20 : decode cX11_movesBy 20 = .ok (.invokevirtual 67, 3) := by decide +kernel
theorem dX11_movesBy_23 : decode cX11_movesBy 23 = .ok (.ifCond .eq 23, 3) := by decide +kernel
theorem dX11_movesBy_26 : decode cX11_movesBy 26 = .ok (.aload_n 0, 1) := by decide +kernel
theorem dX11_movesBy_27 : decode cX11_movesBy 27 = .ok (.getfield 7, 3) := by decide +kernel
theorem dX11_movesBy_30 : decode cX11_movesBy 30 = .ok (.iload 4, 2) := by decide +kernel
theorem dX11_movesBy_32 : decode cX11_movesBy 32 = .ok (.invokestatic 62, 3) := by decide +kernel
theorem dX11_movesBy_35 : decode cX11_movesBy 35 = .ok (.iload_n 2, 1) := by decide +kernel
theorem dX11_movesBy_36 : decode cX11_movesBy 36 = .ok (.iadd, 1) := by decide +kernel
theorem dX11_movesBy_37 : decode cX11_movesBy 37 = .ok (.iaload, 1) := by decide +kernel
theorem dX11_movesBy_38 : decode cX11_movesBy 38 = .ok (.iload_n 1, 1) := by decide +kernel
theorem dX11_movesBy_39 : decode cX11_movesBy 39 = .ok (.if_icmp .ne 7, 3) := by decide +kernel
theorem dX11_movesBy_42 : decode cX11_movesBy 42 = .ok (.iconst 1, 1) := by decide +kernel
theorem dX11_movesBy_43 : decode cX11_movesBy 43 = .ok (.goto 4, 3) := by decide +kernel
theorem dX11_movesBy_46 : decode cX11_movesBy 46 = .ok (.iconst 0, 1) := by decide +kernel
theorem dX11_movesBy_47 : decode cX11_movesBy 47 = .ok (.iadd, 1) := by decide +kernel
theorem dX11_movesBy_48 : decode cX11_movesBy 48 = .ok (.istore_n 3, 1) := by decide +kernel
theorem dX11_movesBy_49 : decode cX11_movesBy 49 = .ok (.iinc 4 1, 3) := by decide +kernel
theorem dX11_movesBy_52 : decode cX11_movesBy 52 = .ok (.goto (-47), 3) := by decide +kernel
theorem dX11_movesBy_55 : decode cX11_movesBy 55 = .ok (.iload_n 3, 1) := by decide +kernel
theorem dX11_movesBy_56 : decode cX11_movesBy 56 = .ok (.ireturn, 1) := by decide +kernel
theorem dX11_server_0 : decode cX11_server 0 = .ok (.iload_n 1, 1) := by decide +kernel
theorem dX11_server_1 : decode cX11_server 1 = .ok (.invokestatic 161, 3) := by decide +kernel
theorem dX11_server_4 : decode cX11_server 4 = .ok (.ifCond .ne 5, 3) := by decide +kernel
theorem dX11_server_7 : decode cX11_server 7 = .ok (.iconst (-1), 1) := by decide +kernel
theorem dX11_server_8 : decode cX11_server 8 = .ok (.ireturn, 1) := by decide +kernel
theorem dX11_server_9 : decode cX11_server 9 = .ok (.iload_n 2, 1) := by decide +kernel
theorem dX11_server_10 : decode cX11_server 10 = .ok (.tableswitch 69 0 4 #[34, 43, 49, 55, 62], 34) := by decide +kernel
theorem dX11_server_44 : decode cX11_server 44 = .ok (.aload_n 0, 1) := by decide +kernel
theorem dX11_server_45 : decode cX11_server 45 = .ok (.getfield 7, 3) := by decide +kernel
theorem dX11_server_48 : decode cX11_server 48 = .ok (.iconst 4, 1) := by decide +kernel
theorem dX11_server_49 : decode cX11_server 49 = .ok (.iload_n 1, 1) := by decide +kernel
theorem dX11_server_50 : decode cX11_server 50 = .ok (.iadd, 1) := by decide +kernel
theorem dX11_server_51 : decode cX11_server 51 = .ok (.iaload, 1) := by decide +kernel
theorem dX11_server_52 : decode cX11_server 52 = .ok (.ireturn, 1) := by decide +kernel
theorem dX11_server_53 : decode cX11_server 53 = .ok (.aload_n 0, 1) := by decide +kernel
theorem dX11_server_54 : decode cX11_server 54 = .ok (.iload_n 1, 1) := by decide +kernel
theorem dX11_server_55 : decode cX11_server 55 = .ok (.invokevirtual 328, 3) := by decide +kernel
theorem dX11_server_58 : decode cX11_server 58 = .ok (.ireturn, 1) := by decide +kernel
theorem dX11_server_59 : decode cX11_server 59 = .ok (.aload_n 0, 1) := by decide +kernel
theorem dX11_server_60 : decode cX11_server 60 = .ok (.iload_n 1, 1) := by decide +kernel
theorem dX11_server_61 : decode cX11_server 61 = .ok (.invokevirtual 331, 3) := by decide +kernel
theorem dX11_server_64 : decode cX11_server 64 = .ok (.ireturn, 1) := by decide +kernel
theorem dX11_server_65 : decode cX11_server 65 = .ok (.aload_n 0, 1) := by decide +kernel
theorem dX11_server_66 : decode cX11_server 66 = .ok (.iload_n 1, 1) := by decide +kernel
theorem dX11_server_67 : decode cX11_server 67 = .ok (.iconst 3, 1) := by decide +kernel
theorem dX11_server_68 : decode cX11_server 68 = .ok (.invokevirtual 334, 3) := by decide +kernel
theorem dX11_server_71 : decode cX11_server 71 = .ok (.ireturn, 1) := by decide +kernel
theorem dX11_server_72 : decode cX11_server 72 = .ok (.aload_n 0, 1) := by decide +kernel
theorem dX11_server_73 : decode cX11_server 73 = .ok (.iload_n 1, 1) := by decide +kernel
theorem dX11_server_74 : decode cX11_server 74 = .ok (.iconst 4, 1) := by decide +kernel
theorem dX11_server_75 : decode cX11_server 75 = .ok (.invokevirtual 334, 3) := by decide +kernel
theorem dX11_server_78 : decode cX11_server 78 = .ok (.ireturn, 1) := by decide +kernel
theorem dX11_server_79 : decode cX11_server 79 = .ok (.iconst (-1), 1) := by decide +kernel
theorem dX11_server_80 : decode cX11_server 80 = .ok (.ireturn, 1) := by decide +kernel
theorem dX11_load_0 : decode cX11_load 0 = .ok (.iload_n 1, 1) := by decide +kernel
theorem dX11_load_1 : decode cX11_load 1 = .ok (.invokestatic 161, 3) := by decide +kernel
theorem dX11_load_4 : decode cX11_load 4 = .ok (.ifCond .eq 11, 3) := by decide +kernel
theorem dX11_load_7 : decode cX11_load 7 = .ok (.aload_n 0, 1) := by decide +kernel
theorem dX11_load_8 : decode cX11_load 8 = .ok (.iload_n 1, 1) := by decide +kernel
theorem dX11_load_9 : decode cX11_load 9 = .ok (.invokevirtual 337, 3) := by decide +kernel
theorem dX11_load_12 : decode cX11_load 12 = .ok (.goto 6, 3) := by decide +kernel
theorem dX11_load_15 : decode cX11_load 15 = .ok (.ldc2_w 326, 3) := by decide +kernel
theorem dX11_load_18 : decode cX11_load 18 = .ok (.lreturn, 1) := by decide +kernel
theorem dX11_stored_0 : decode cX11_stored 0 = .ok (.iload_n 1, 1) := by decide +kernel
theorem dX11_stored_1 : decode cX11_stored 1 = .ok (.invokestatic 161, 3) := by decide +kernel
theorem dX11_stored_4 : decode cX11_stored 4 = .ok (.ifCond .eq 23, 3) := by decide +kernel
theorem dX11_stored_7 : decode cX11_stored 7 = .ok (.iload_n 2, 1) := by decide +kernel
theorem dX11_stored_8 : decode cX11_stored 8 = .ok (.invokestatic 54, 3) := by decide +kernel
theorem dX11_stored_11 : decode cX11_stored 11 = .ok (.ifCond .eq 16, 3) := by decide +kernel
theorem dX11_stored_14 : decode cX11_stored 14 = .ok (.aload_n 0, 1) := by decide +kernel
theorem dX11_stored_15 : decode cX11_stored 15 = .ok (.getfield 7, 3) := by decide +kernel
theorem dX11_stored_18 : decode cX11_stored 18 = .ok (.iload_n 1, 1) := by decide +kernel
theorem dX11_stored_19 : decode cX11_stored 19 = .ok (.iload_n 2, 1) := by decide +kernel
theorem dX11_stored_20 : decode cX11_stored 20 = .ok (.invokestatic 136, 3) := by decide +kernel
theorem dX11_stored_23 : decode cX11_stored 23 = .ok (.iaload, 1) := by decide +kernel
theorem dX11_stored_24 : decode cX11_stored 24 = .ok (.goto 4, 3) := by decide +kernel
theorem dX11_stored_27 : decode cX11_stored 27 = .ok (.iconst (-1), 1) := by decide +kernel
theorem dX11_stored_28 : decode cX11_stored 28 = .ok (.ireturn, 1) := by decide +kernel
theorem dX11_staleOf_0 : decode cX11_staleOf 0 = .ok (.iconst 0, 1) := by decide +kernel
theorem dX11_staleOf_1 : decode cX11_staleOf 1 = .ok (.istore_n 2, 1) := by decide +kernel
theorem dX11_staleOf_2 : decode cX11_staleOf 2 = .ok (.iconst 0, 1) := by decide +kernel
theorem dX11_staleOf_3 : decode cX11_staleOf 3 = .ok (.istore_n 3, 1) := by decide +kernel
theorem dX11_staleOf_4 : decode cX11_staleOf 4 = .ok (.iload_n 3, 1) := by decide +kernel
theorem dX11_staleOf_5 : decode cX11_staleOf 5 = .ok (.aload_n 0, 1) := by decide +kernel
theorem dX11_staleOf_6 : decode cX11_staleOf 6 = .ok (.getfield 7, 3) := by decide +kernel
theorem dX11_staleOf_9 : decode cX11_staleOf 9 = .ok (.iload_n 1, 1) := by decide +kernel
theorem dX11_staleOf_10 : decode cX11_staleOf 10 = .ok (.invokestatic 118, 3) := by decide +kernel
theorem dX11_staleOf_13 : decode cX11_staleOf 13 = .ok (.iconst 1, 1) := by decide +kernel
theorem dX11_staleOf_14 : decode cX11_staleOf 14 = .ok (.iadd, 1) := by decide +kernel
theorem dX11_staleOf_15 : decode cX11_staleOf 15 = .ok (.iaload, 1) := by decide +kernel
theorem dX11_staleOf_16 : decode cX11_staleOf 16 = .ok (.if_icmp .ge 39, 3) := by decide +kernel
theorem dX11_staleOf_19 : decode cX11_staleOf 19 = .ok (.iload_n 2, 1) := by decide +kernel
theorem dX11_staleOf_20 : decode cX11_staleOf 20 = .ok (.aload_n 0, 1) := by decide +kernel
theorem dX11_staleOf_21 : decode cX11_staleOf 21 = .ok (.iload_n 1, 1) := by decide +kernel
theorem dX11_staleOf_22 : decode cX11_staleOf 22 = .ok (.aload_n 0, 1) := by decide +kernel
theorem dX11_staleOf_23 : decode cX11_staleOf 23 = .ok (.getfield 7, 3) := by decide +kernel
theorem dX11_staleOf_26 : decode cX11_staleOf 26 = .ok (.iload_n 1, 1) := by decide +kernel
theorem dX11_staleOf_27 : decode cX11_staleOf 27 = .ok (.invokestatic 118, 3) := by decide +kernel
theorem dX11_staleOf_30 : decode cX11_staleOf 30 = .ok (.iconst 2, 1) := by decide +kernel
theorem dX11_staleOf_31 : decode cX11_staleOf 31 = .ok (.iadd, 1) := by decide +kernel
theorem dX11_staleOf_32 : decode cX11_staleOf 32 = .ok (.iload_n 3, 1) := by decide +kernel
theorem dX11_staleOf_33 : decode cX11_staleOf 33 = .ok (.iadd, 1) := by decide +kernel
theorem dX11_staleOf_34 : decode cX11_staleOf 34 = .ok (.iaload, 1) := by decide +kernel
theorem dX11_staleOf_35 : decode cX11_staleOf 35 = .ok (.invokevirtual 140, 3) := by decide +kernel
theorem dX11_staleOf_38 : decode cX11_staleOf 38 = .ok (.iconst 3, 1) := by decide +kernel
theorem dX11_staleOf_39 : decode cX11_staleOf 39 = .ok (.if_icmp .ne 7, 3) := by decide +kernel
theorem dX11_staleOf_42 : decode cX11_staleOf 42 = .ok (.iconst 1, 1) := by decide +kernel
theorem dX11_staleOf_43 : decode cX11_staleOf 43 = .ok (.goto 4, 3) := by decide +kernel
theorem dX11_staleOf_46 : decode cX11_staleOf 46 = .ok (.iconst 0, 1) := by decide +kernel
theorem dX11_staleOf_47 : decode cX11_staleOf 47 = .ok (.iadd, 1) := by decide +kernel
theorem dX11_staleOf_48 : decode cX11_staleOf 48 = .ok (.istore_n 2, 1) := by decide +kernel
theorem dX11_staleOf_49 : decode cX11_staleOf 49 = .ok (.iinc 3 1, 3) := by decide +kernel
theorem dX11_staleOf_52 : decode cX11_staleOf 52 = .ok (.goto (-48), 3) := by decide +kernel
theorem dX11_staleOf_55 : decode cX11_staleOf 55 = .ok (.iload_n 2, 1) := by decide +kernel
theorem dX11_staleOf_56 : decode cX11_staleOf 56 = .ok (.ireturn, 1) := by decide +kernel
theorem dX11_clientOf_0 : decode cX11_clientOf 0 = .ok (.iload_n 1, 1) := by decide +kernel
theorem dX11_clientOf_1 : decode cX11_clientOf 1 = .ok (.invokestatic 121, 3) := by decide +kernel
theorem dX11_clientOf_4 : decode cX11_clientOf 4 = .ok (.ifCond .eq 15, 3) := by decide +kernel
theorem dX11_clientOf_7 : decode cX11_clientOf 7 = .ok (.iload_n 2, 1) := by decide +kernel
theorem dX11_clientOf_8 : decode cX11_clientOf 8 = .ok (.i2l, 1) := by decide +kernel
theorem dX11_clientOf_9 : decode cX11_clientOf 9 = .ok (.lconst 0, 1) := by decide +kernel
theorem dX11_clientOf_10 : decode cX11_clientOf 10 = .ok (.ldc2_w 49, 3) := by decide +kernel
theorem dX11_clientOf_13 : decode cX11_clientOf 13 = .ok (.invokestatic 45, 3) := by decide +kernel
theorem dX11_clientOf_16 : decode cX11_clientOf 16 = .ok (.ifCond .ne 5, 3) := by decide +kernel
theorem dX11_clientOf_19 : decode cX11_clientOf 19 = .ok (.iconst (-1), 1) := by decide +kernel
theorem dX11_clientOf_20 : decode cX11_clientOf 20 = .ok (.ireturn, 1) := by decide +kernel
theorem dX11_clientOf_21 : decode cX11_clientOf 21 = .ok (.iload_n 2, 1) := by decide +kernel
theorem dX11_clientOf_22 : decode cX11_clientOf 22 = .ok (.ifCond .ne 15, 3) := by decide +kernel
theorem dX11_clientOf_25 : decode cX11_clientOf 25 = .ok (.aload_n 0, 1) := by decide +kernel
theorem dX11_clientOf_26 : decode cX11_clientOf 26 = .ok (.getfield 7, 3) := by decide +kernel
theorem dX11_clientOf_29 : decode cX11_clientOf 29 = .ok (.iload_n 1, 1) := by decide +kernel
theorem dX11_clientOf_30 : decode cX11_clientOf 30 = .ok (.invokestatic 118, 3) := by decide +kernel
theorem dX11_clientOf_33 : decode cX11_clientOf 33 = .ok (.iconst 0, 1) := by decide +kernel
theorem dX11_clientOf_34 : decode cX11_clientOf 34 = .ok (.iadd, 1) := by decide +kernel
theorem dX11_clientOf_35 : decode cX11_clientOf 35 = .ok (.iaload, 1) := by decide +kernel
theorem dX11_clientOf_36 : decode cX11_clientOf 36 = .ok (.ireturn, 1) := by decide +kernel
theorem dX11_clientOf_37 : decode cX11_clientOf 37 = .ok (.iload_n 2, 1) := by decide +kernel
theorem dX11_clientOf_38 : decode cX11_clientOf 38 = .ok (.iconst 1, 1) := by decide +kernel
theorem dX11_clientOf_39 : decode cX11_clientOf 39 = .ok (.if_icmp .ne 11, 3) := by decide +kernel
theorem dX11_clientOf_42 : decode cX11_clientOf 42 = .ok (.aload_n 0, 1) := by decide +kernel
theorem dX11_clientOf_43 : decode cX11_clientOf 43 = .ok (.iload_n 1, 1) := by decide +kernel
theorem dX11_clientOf_44 : decode cX11_clientOf 44 = .ok (.invokevirtual 340, 3) := by decide +kernel
theorem dX11_clientOf_47 : decode cX11_clientOf 47 = .ok (.goto 19, 3) := by decide +kernel
theorem dX11_clientOf_50 : decode cX11_clientOf 50 = .ok (.aload_n 0, 1) := by decide +kernel
theorem dX11_clientOf_51 : decode cX11_clientOf 51 = .ok (.getfield 7, 3) := by decide +kernel
theorem dX11_clientOf_54 : decode cX11_clientOf 54 = .ok (.sipush 8573, 3) := by decide +kernel
theorem dX11_clientOf_57 : decode cX11_clientOf 57 = .ok (.iconst 4, 1) := by decide +kernel
theorem dX11_clientOf_58 : decode cX11_clientOf 58 = .ok (.iload_n 1, 1) := by decide +kernel
theorem dX11_clientOf_59 : decode cX11_clientOf 59 = .ok (.imul, 1) := by decide +kernel
theorem dX11_clientOf_60 : decode cX11_clientOf 60 = .ok (.iadd, 1) := by decide +kernel
theorem dX11_clientOf_61 : decode cX11_clientOf 61 = .ok (.iload_n 2, 1) := by decide +kernel
theorem dX11_clientOf_62 : decode cX11_clientOf 62 = .ok (.iadd, 1) := by decide +kernel
theorem dX11_clientOf_63 : decode cX11_clientOf 63 = .ok (.iconst 2, 1) := by decide +kernel
theorem dX11_clientOf_64 : decode cX11_clientOf 64 = .ok (.isub, 1) := by decide +kernel
theorem dX11_clientOf_65 : decode cX11_clientOf 65 = .ok (.iaload, 1) := by decide +kernel
theorem dX11_clientOf_66 : decode cX11_clientOf 66 = .ok (.ireturn, 1) := by decide +kernel
theorem dX11_moveOf_0 : decode cX11_moveOf 0 = .ok (.aload_n 0, 1) := by decide +kernel
theorem dX11_moveOf_1 : decode cX11_moveOf 1 = .ok (.iload_n 1, 1) := by decide +kernel
theorem dX11_moveOf_2 : decode cX11_moveOf 2 = .ok (.invokevirtual 189, 3) := by decide +kernel
theorem dX11_moveOf_5 : decode cX11_moveOf 5 = .ok (.ifCond .eq 29, 3) := by decide +kernel
theorem dX11_moveOf_8 : decode cX11_moveOf 8 = .ok (.iload_n 2, 1) := by decide +kernel
theorem dX11_moveOf_9 : decode cX11_moveOf 9 = .ok (.i2l, 1) := by decide +kernel
theorem dX11_moveOf_10 : decode cX11_moveOf 10 = .ok (.lconst 0, 1) := by decide +kernel
theorem dX11_moveOf_11 : decode cX11_moveOf 11 = .ok (.ldc2_w 343, 3) := by decide +kernel
theorem dX11_moveOf_14 : decode cX11_moveOf 14 = .ok (.invokestatic 45, 3) := by decide +kernel
theorem dX11_moveOf_17 : decode cX11_moveOf 17 = .ok (.ifCond .eq 17, 3) := by decide +kernel
theorem dX11_moveOf_20 : decode cX11_moveOf 20 = .ok (.aload_n 0, 1) := by decide +kernel
theorem dX11_moveOf_21 : decode cX11_moveOf 21 = .ok (.getfield 7, 3) := by decide +kernel
theorem dX11_moveOf_24 : decode cX11_moveOf 24 = .ok (.iload_n 1, 1) := by decide +kernel
theorem dX11_moveOf_25 : decode cX11_moveOf 25 = .ok (.invokestatic 62, 3) := by decide +kernel
theorem dX11_moveOf_28 : decode cX11_moveOf 28 = .ok (.iload_n 2, 1) := by decide +kernel
theorem dX11_moveOf_29 : decode cX11_moveOf 29 = .ok (.iadd, 1) := by decide +kernel
theorem dX11_moveOf_30 : decode cX11_moveOf 30 = .ok (.iaload, 1) := by decide +kernel
theorem dX11_moveOf_31 : decode cX11_moveOf 31 = .ok (.goto 4, 3) := by decide +kernel
theorem dX11_moveOf_34 : decode cX11_moveOf 34 = .ok (.iconst (-1), 1) := by decide +kernel
theorem dX11_moveOf_35 : decode cX11_moveOf 35 = .ok (.ireturn, 1) := by decide +kernel
theorem dX11_trail_0 : decode cX11_trail 0 = .ok (.aload_n 0, 1) := by decide +kernel
theorem dX11_trail_1 : decode cX11_trail 1 = .ok (.iload_n 1, 1) := by decide +kernel
theorem dX11_trail_2 : decode cX11_trail 2 = .ok (.invokevirtual 189, 3) := by decide +kernel
theorem dX11_trail_5 : decode cX11_trail 5 = .ok (.ifCond .eq 44, 3) := by decide +kernel
theorem dX11_trail_8 : decode cX11_trail 8 = .ok (.iload_n 2, 1) := by decide +kernel
theorem dX11_trail_9 : decode cX11_trail 9 = .ok (.i2l, 1) := by decide +kernel
theorem dX11_trail_10 : decode cX11_trail 10 = .ok (.lconst 0, 1) := by decide +kernel
theorem dX11_trail_11 : decode cX11_trail 11 = .ok (.aload_n 0, 1) := by decide +kernel
theorem dX11_trail_12 : decode cX11_trail 12 = .ok (.getfield 7, 3) := by decide +kernel
theorem dX11_trail_15 : decode cX11_trail 15 = .ok (.iload_n 1, 1) := by decide +kernel
theorem dX11_trail_16 : decode cX11_trail 16 = .ok (.invokestatic 62, 3) := by decide +kernel
theorem dX11_trail_19 : decode cX11_trail 19 = .ok (.bipush 6, 2) := by decide +kernel
theorem dX11_trail_21 : decode cX11_trail 21 = .ok (.iadd, 1) := by decide +kernel
theorem dX11_trail_22 : decode cX11_trail 22 = .ok (.iaload, 1) := by decide +kernel
theorem dX11_trail_23 : decode cX11_trail 23 = .ok (.iconst 1, 1) := by decide +kernel
theorem dX11_trail_24 : decode cX11_trail 24 = .ok (.isub, 1) := by decide +kernel
theorem dX11_trail_25 : decode cX11_trail 25 = .ok (.i2l, 1) := by decide +kernel
theorem dX11_trail_26 : decode cX11_trail 26 = .ok (.invokestatic 45, 3) := by decide +kernel
theorem dX11_trail_29 : decode cX11_trail 29 = .ok (.ifCond .eq 20, 3) := by decide +kernel
theorem dX11_trail_32 : decode cX11_trail 32 = .ok (.aload_n 0, 1) := by decide +kernel
theorem dX11_trail_33 : decode cX11_trail 33 = .ok (.getfield 7, 3) := by decide +kernel
theorem dX11_trail_36 : decode cX11_trail 36 = .ok (.iload_n 1, 1) := by decide +kernel
theorem dX11_trail_37 : decode cX11_trail 37 = .ok (.invokestatic 62, 3) := by decide +kernel
theorem dX11_trail_40 : decode cX11_trail 40 = .ok (.bipush 12, 2) := by decide +kernel
theorem dX11_trail_42 : decode cX11_trail 42 = .ok (.iadd, 1) := by decide +kernel
theorem dX11_trail_43 : decode cX11_trail 43 = .ok (.iload_n 2, 1) := by decide +kernel
theorem dX11_trail_44 : decode cX11_trail 44 = .ok (.iadd, 1) := by decide +kernel
theorem dX11_trail_45 : decode cX11_trail 45 = .ok (.iaload, 1) := by decide +kernel
theorem dX11_trail_46 : decode cX11_trail 46 = .ok (.goto 4, 3) := by decide +kernel
theorem dX11_trail_49 : decode cX11_trail 49 = .ok (.iconst (-1), 1) := by decide +kernel
theorem dX11_trail_50 : decode cX11_trail 50 = .ok (.ireturn, 1) := by decide +kernel
theorem dX11_switchBehind_0 : decode cX11_switchBehind 0 = .ok (.iconst (-1), 1) := by decide +kernel
theorem dX11_switchBehind_1 : decode cX11_switchBehind 1 = .ok (.istore 4, 2) := by decide +kernel
theorem dX11_switchBehind_3 : decode cX11_switchBehind 3 = .ok (.iconst 0, 1) := by decide +kernel
theorem dX11_switchBehind_4 : decode cX11_switchBehind 4 = .ok (.istore 5, 2) := by decide +kernel
theorem dX11_switchBehind_6 : decode cX11_switchBehind 6 = .ok (.iload 5, 2) := by decide +kernel
theorem dX11_switchBehind_8 : decode cX11_switchBehind 8 = .ok (.aload_n 0, 1) := by decide +kernel
theorem dX11_switchBehind_9 : decode cX11_switchBehind 9 = .ok (.getfield 7, 3) := by decide +kernel
theorem dX11_switchBehind_12 : decode cX11_switchBehind 12 = .ok (.iconst 3, 1) := by decide +kernel
theorem dX11_switchBehind_13 : decode cX11_switchBehind 13 = .ok (.iaload, 1) := by decide +kernel
theorem dX11_switchBehind_14 : decode cX11_switchBehind 14 = .ok (.if_icmp .ge 111, 3) := by decide +kernel
theorem dX11_switchBehind_17 : decode cX11_switchBehind 17 = .ok (.aload_n 0, 1) := by decide +kernel
theorem dX11_switchBehind_18 : decode cX11_switchBehind 18 = .ok (.getfield 7, 3) := by decide +kernel
theorem dX11_switchBehind_21 : decode cX11_switchBehind 21 = .ok (.iload 5, 2) := by decide +kernel
theorem dX11_switchBehind_23 : decode cX11_switchBehind 23 = .ok (.invokestatic 62, 3) := by decide +kernel
theorem dX11_switchBehind_26 : decode cX11_switchBehind 26 = .ok (.bipush 11, 2) := by decide +kernel
theorem dX11_switchBehind_28 : decode cX11_switchBehind 28 = .ok (.iadd, 1) := by decide +kernel
theorem dX11_switchBehind_29 : decode cX11_switchBehind 29 = .ok (.iaload, 1) := by decide +kernel
theorem dX11_switchBehind_30 : decode cX11_switchBehind 30 = .ok (.istore 6, 2) := by decide +kernel
theorem dX11_switchBehind_32 : decode cX11_switchBehind 32 = .ok (.iload 6, 2) := by decide +kernel
theorem dX11_switchBehind_34 : decode cX11_switchBehind 34 = .ok (.ifCond .eq 85, 3) := by decide +kernel
theorem dX11_switchBehind_37 : decode cX11_switchBehind 37 = .ok (.iload 6, 2) := by decide +kernel
theorem dX11_switchBehind_39 : decode cX11_switchBehind 39 = .ok (.i2l, 1) := by decide +kernel
theorem dX11_switchBehind_40 : decode cX11_switchBehind 40 = .ok (.iload_n 1, 1) := by decide +kernel
theorem dX11_switchBehind_41 : decode cX11_switchBehind 41 = .ok (.iconst 1, 1) := by decide +kernel
theorem dX11_switchBehind_42 : decode cX11_switchBehind 42 = .ok (.iadd, 1) := by decide +kernel
theorem dX11_switchBehind_43 : decode cX11_switchBehind 43 = .ok (.i2l, 1) := by decide +kernel
theorem dX11_switchBehind_44 : decode cX11_switchBehind 44 = .ok (.iload_n 2, 1) := by decide +kernel
theorem dX11_switchBehind_45 : decode cX11_switchBehind 45 = .ok (.i2l, 1) := by decide +kernel
theorem dX11_switchBehind_46 : decode cX11_switchBehind 46 = .ok (.invokestatic 45, 3) := by decide +kernel
theorem dX11_switchBehind_49 : decode cX11_switchBehind 49 = .ok (.ifCond .eq 70, 3) := by decide +kernel
theorem dX11_switchBehind_52 : decode cX11_switchBehind 52 = .ok (.iload_n 3, 1) := by decide +kernel
theorem dX11_switchBehind_53 : decode cX11_switchBehind 53 = .ok (.i2l, 1) := by decide +kernel
theorem dX11_switchBehind_54 : decode cX11_switchBehind 54 = .ok (.aload_n 0, 1) := by decide +kernel
theorem dX11_switchBehind_55 : decode cX11_switchBehind 55 = .ok (.getfield 7, 3) := by decide +kernel
theorem dX11_switchBehind_58 : decode cX11_switchBehind 58 = .ok (.iload 5, 2) := by decide +kernel
theorem dX11_switchBehind_60 : decode cX11_switchBehind 60 = .ok (.invokestatic 62, 3) := by decide +kernel
theorem dX11_switchBehind_63 : decode cX11_switchBehind 63 = .ok (.iconst 1, 1) := by decide +kernel
theorem dX11_switchBehind_64 : decode cX11_switchBehind 64 = .ok (.iadd, 1) := by decide +kernel
theorem dX11_switchBehind_65 : decode cX11_switchBehind 65 = .ok (.iaload, 1) := by decide +kernel
theorem dX11_switchBehind_66 : decode cX11_switchBehind 66 = .ok (.i2l, 1) := by decide +kernel
theorem dX11_switchBehind_67 : decode cX11_switchBehind 67 = .ok (.aload_n 0, 1) := by decide +kernel
theorem dX11_switchBehind_68 : decode cX11_switchBehind 68 = .ok (.getfield 7, 3) := by decide +kernel
theorem dX11_switchBehind_71 : decode cX11_switchBehind 71 = .ok (.iload 5, 2) := by decide +kernel
theorem dX11_switchBehind_73 : decode cX11_switchBehind 73 = .ok (.invokestatic 62, 3) := by decide +kernel
theorem dX11_switchBehind_76 : decode cX11_switchBehind 76 = .ok (.iconst 2, 1) := by decide +kernel
theorem dX11_switchBehind_77 : decode cX11_switchBehind 77 = .ok (.iadd, 1) := by decide +kernel
theorem dX11_switchBehind_78 : decode cX11_switchBehind 78 = .ok (.iaload, 1) := by decide +kernel
theorem dX11_switchBehind_79 : decode cX11_switchBehind 79 = .ok (.iconst 1, 1) := by decide +kernel
theorem dX11_switchBehind_80 : decode cX11_switchBehind 80 = .ok (.isub, 1) := by decide +kernel
theorem dX11_switchBehind_81 : decode cX11_switchBehind 81 = .ok (.i2l, 1) := by decide +kernel
theorem dX11_switchBehind_82 : decode cX11_switchBehind 82 = .ok (.invokestatic 45, 3) := by decide +kernel
theorem dX11_switchBehind_85 : decode cX11_switchBehind 85 = .ok (.ifCond .ne 6, 3) := by decide +kernel
theorem dX11_switchBehind_88 : decode cX11_switchBehind 88 = .ok (.goto 31, 3) := by decide +kernel
theorem dX11_switchBehind_91 : decode cX11_switchBehind 91 = .ok (.iload 4, 2) := by decide +kernel
theorem dX11_switchBehind_93 : decode cX11_switchBehind 93 = .ok (.iconst (-1), 1) := by decide +kernel
theorem dX11_switchBehind_94 : decode cX11_switchBehind 94 = .ok (.if_icmp .eq 21, 3) := by decide +kernel
theorem dX11_switchBehind_97 : decode cX11_switchBehind 97 = .ok (.iload 6, 2) := by decide +kernel
theorem dX11_switchBehind_99 : decode cX11_switchBehind 99 = .ok (.aload_n 0, 1) := by decide +kernel
theorem dX11_switchBehind_100 : decode cX11_switchBehind 100 = .ok (.getfield 7, 3) := by decide +kernel
theorem dX11_switchBehind_103 : decode cX11_switchBehind 103 = .ok (.iload 4, 2) := by decide +kernel
theorem dX11_switchBehind_105 : decode cX11_switchBehind 105 = .ok (.invokestatic 62, 3) := by decide +kernel
theorem dX11_switchBehind_108 : decode cX11_switchBehind 108 = .ok (.bipush 11, 2) := by decide +kernel
theorem dX11_switchBehind_110 : decode cX11_switchBehind 110 = .ok (.iadd, 1) := by decide +kernel
theorem dX11_switchBehind_111 : decode cX11_switchBehind 111 = .ok (.iaload, 1) := by decide +kernel
theorem dX11_switchBehind_112 : decode cX11_switchBehind 112 = .ok (.if_icmp .ge 7, 3) := by decide +kernel
theorem dX11_switchBehind_115 : decode cX11_switchBehind 115 = .ok (.iload 5, 2) := by decide +kernel
theorem dX11_switchBehind_117 : decode cX11_switchBehind 117 = .ok (.istore 4, 2) := by decide +kernel
theorem dX11_switchBehind_119 : decode cX11_switchBehind 119 = .ok (.iinc 5 1, 3) := by decide +kernel
theorem dX11_switchBehind_122 : decode cX11_switchBehind 122 = .ok (.goto (-116), 3) := by decide +kernel
theorem dX11_switchBehind_125 : decode cX11_switchBehind 125 = .ok (.iload 4, 2) := by decide +kernel
theorem dX11_switchBehind_127 : decode cX11_switchBehind 127 = .ok (.ireturn, 1) := by decide +kernel
theorem dX11_owned_0 : decode cX11_owned 0 = .ok (.iload_n 1, 1) := by decide +kernel
theorem dX11_owned_1 : decode cX11_owned 1 = .ok (.i2l, 1) := by decide +kernel
theorem dX11_owned_2 : decode cX11_owned 2 = .ok (.lconst 1, 1) := by decide +kernel
theorem dX11_owned_3 : decode cX11_owned 3 = .ok (.aload_n 0, 1) := by decide +kernel
theorem dX11_owned_4 : decode cX11_owned 4 = .ok (.getfield 7, 3) := by decide +kernel
theorem dX11_owned_7 : decode cX11_owned 7 = .ok (.iconst 0, 1) := by decide +kernel
theorem dX11_owned_8 : decode cX11_owned 8 = .ok (.iaload, 1) := by decide +kernel
theorem dX11_owned_9 : decode cX11_owned 9 = .ok (.i2l, 1) := by decide +kernel
theorem dX11_owned_10 : decode cX11_owned 10 = .ok (.invokestatic 45, 3) := by decide +kernel
theorem dX11_owned_13 : decode cX11_owned 13 = .ok (.ifCond .eq 10, 3) := by decide +kernel
theorem dX11_owned_16 : decode cX11_owned 16 = .ok (.iload_n 2, 1) := by decide +kernel
theorem dX11_owned_17 : decode cX11_owned 17 = .ok (.invokestatic 54, 3) := by decide +kernel
theorem dX11_owned_20 : decode cX11_owned 20 = .ok (.ifCond .ne 5, 3) := by decide +kernel
theorem dX11_owned_23 : decode cX11_owned 23 = .ok (.iconst (-1), 1) := by decide +kernel
theorem dX11_owned_24 : decode cX11_owned 24 = .ok (.ireturn, 1) := by decide +kernel
theorem dX11_owned_25 : decode cX11_owned 25 = .ok (.iconst 0, 1) := by decide +kernel
theorem dX11_owned_26 : decode cX11_owned 26 = .ok (.istore_n 3, 1) := by decide +kernel
theorem dX11_owned_27 : decode cX11_owned 27 = .ok (.iconst 1, 1) := by decide +kernel
theorem dX11_owned_28 : decode cX11_owned 28 = .ok (.istore 4, 2) := by decide +kernel
theorem dX11_owned_30 : decode cX11_owned 30 = .ok (.aload_n 0, 1) := by decide +kernel
theorem dX11_owned_31 : decode cX11_owned 31 = .ok (.iload 4, 2) := by decide +kernel
theorem dX11_owned_33 : decode cX11_owned 33 = .ok (.iload_n 1, 1) := by decide +kernel
theorem dX11_owned_34 : decode cX11_owned 34 = .ok (.iload_n 2, 1) := by decide +kernel
theorem dX11_owned_35 : decode cX11_owned 35 = .ok (.invokevirtual 345, 3) := by decide +kernel
theorem dX11_owned_38 : decode cX11_owned 38 = .ok (.istore 5, 2) := by decide +kernel
theorem dX11_owned_40 : decode cX11_owned 40 = .ok (.iload 5, 2) := by decide +kernel
theorem dX11_owned_42 : decode cX11_owned 42 = .ok (.iconst (-1), 1) := by decide +kernel
theorem dX11_owned_43 : decode cX11_owned 43 = .ok (.if_icmp .eq 44, 3) := by decide +kernel
theorem dX11_owned_46 : decode cX11_owned 46 = .ok (.aload_n 0, 1) := by decide +kernel
theorem dX11_owned_47 : decode cX11_owned 47 = .ok (.getfield 7, 3) := by decide +kernel
theorem dX11_owned_50 : decode cX11_owned 50 = .ok (.iload 5, 2) := by decide +kernel
theorem dX11_owned_52 : decode cX11_owned 52 = .ok (.invokestatic 62, 3) := by decide +kernel
theorem dX11_owned_55 : decode cX11_owned 55 = .ok (.iconst 4, 1) := by decide +kernel
theorem dX11_owned_56 : decode cX11_owned 56 = .ok (.iadd, 1) := by decide +kernel
theorem dX11_owned_57 : decode cX11_owned 57 = .ok (.iaload, 1) := by decide +kernel
theorem dX11_owned_58 : decode cX11_owned 58 = .ok (.istore_n 3, 1) := by decide +kernel
theorem dX11_owned_59 : decode cX11_owned 59 = .ok (.aload_n 0, 1) := by decide +kernel
theorem dX11_owned_60 : decode cX11_owned 60 = .ok (.getfield 7, 3) := by decide +kernel
theorem dX11_owned_63 : decode cX11_owned 63 = .ok (.iload 5, 2) := by decide +kernel
theorem dX11_owned_65 : decode cX11_owned 65 = .ok (.invokestatic 62, 3) := by decide +kernel
theorem dX11_owned_68 : decode cX11_owned 68 = .ok (.bipush 11, 2) := by decide +kernel
theorem dX11_owned_70 : decode cX11_owned 70 = .ok (.iadd, 1) := by decide +kernel
theorem dX11_owned_71 : decode cX11_owned 71 = .ok (.iaload, 1) := by decide +kernel
theorem dX11_owned_72 : decode cX11_owned 72 = .ok (.istore 4, 2) := by decide +kernel
theorem dX11_owned_74 : decode cX11_owned 74 = .ok (.aload_n 0, 1) := by decide +kernel
theorem dX11_owned_75 : decode cX11_owned 75 = .ok (.iload 4, 2) := by decide +kernel
theorem dX11_owned_77 : decode cX11_owned 77 = .ok (.iload_n 1, 1) := by decide +kernel
theorem dX11_owned_78 : decode cX11_owned 78 = .ok (.iload_n 2, 1) := by decide +kernel
theorem dX11_owned_79 : decode cX11_owned 79 = .ok (.invokevirtual 345, 3) := by decide +kernel
theorem dX11_owned_82 : decode cX11_owned 82 = .ok (.istore 5, 2) := by decide +kernel
theorem dX11_owned_84 : decode cX11_owned 84 = .ok (.goto (-44), 3) := by decide +kernel
theorem dX11_owned_87 : decode cX11_owned 87 = .ok (.iload_n 3, 1) := by decide +kernel
theorem dX11_owned_88 : decode cX11_owned 88 = .ok (.ireturn, 1) := by decide +kernel
theorem dX11_passed_0 : decode cX11_passed 0 = .ok (.iload_n 1, 1) := by decide +kernel
theorem dX11_passed_1 : decode cX11_passed 1 = .ok (.invokestatic 54, 3) := by decide +kernel
theorem dX11_passed_4 : decode cX11_passed 4 = .ok (.ifCond .eq 7, 3) := by decide +kernel
theorem dX11_passed_7 : decode cX11_passed 7 = .ok (.iload_n 2, 1) := by decide +kernel
theorem dX11_passed_8 : decode cX11_passed 8 = .ok (.ifCond .ge 5, 3) := by decide +kernel
theorem dX11_passed_11 : decode cX11_passed 11 = .ok (.iconst (-1), 1) := by decide +kernel
theorem dX11_passed_12 : decode cX11_passed 12 = .ok (.ireturn, 1) := by decide +kernel
theorem dX11_passed_13 : decode cX11_passed 13 = .ok (.iconst 1, 1) := by decide +kernel
theorem dX11_passed_14 : decode cX11_passed 14 = .ok (.istore_n 3, 1) := by decide +kernel
theorem dX11_passed_15 : decode cX11_passed 15 = .ok (.iconst 0, 1) := by decide +kernel
theorem dX11_passed_16 : decode cX11_passed 16 = .ok (.istore 4, 2) := by decide +kernel
theorem dX11_passed_18 : decode cX11_passed 18 = .ok (.aload_n 0, 1) := by decide +kernel
theorem dX11_passed_19 : decode cX11_passed 19 = .ok (.iload_n 3, 1) := by decide +kernel
theorem dX11_passed_20 : decode cX11_passed 20 = .ok (.aload_n 0, 1) := by decide +kernel
theorem dX11_passed_21 : decode cX11_passed 21 = .ok (.getfield 7, 3) := by decide +kernel
theorem dX11_passed_24 : decode cX11_passed 24 = .ok (.iconst 0, 1) := by decide +kernel
theorem dX11_passed_25 : decode cX11_passed 25 = .ok (.iaload, 1) := by decide +kernel
theorem dX11_passed_26 : decode cX11_passed 26 = .ok (.iload_n 1, 1) := by decide +kernel
theorem dX11_passed_27 : decode cX11_passed 27 = .ok (.invokevirtual 345, 3) := by decide +kernel
theorem dX11_passed_30 : decode cX11_passed 30 = .ok (.istore 5, 2) := by decide +kernel
theorem dX11_passed_32 : decode cX11_passed 32 = .ok (.iload 5, 2) := by decide +kernel
theorem dX11_passed_34 : decode cX11_passed 34 = .ok (.iconst (-1), 1) := by decide +kernel
theorem dX11_passed_35 : decode cX11_passed 35 = .ok (.if_icmp .ne 5, 3) := by decide +kernel
theorem dX11_passed_38 : decode cX11_passed 38 = .ok (.iconst (-1), 1) := by decide +kernel
theorem dX11_passed_39 : decode cX11_passed 39 = .ok (.ireturn, 1) := by decide +kernel
theorem dX11_passed_40 : decode cX11_passed 40 = .ok (.aload_n 0, 1) := by decide +kernel
theorem dX11_passed_41 : decode cX11_passed 41 = .ok (.getfield 7, 3) := by decide +kernel
theorem dX11_passed_44 : decode cX11_passed 44 = .ok (.iload 5, 2) := by decide +kernel
theorem dX11_passed_46 : decode cX11_passed 46 = .ok (.invokestatic 62, 3) := by decide +kernel
theorem dX11_passed_49 : decode cX11_passed 49 = .ok (.bipush 11, 2) := by decide +kernel
theorem dX11_passed_51 : decode cX11_passed 51 = .ok (.iadd, 1) := by decide +kernel
theorem dX11_passed_52 : decode cX11_passed 52 = .ok (.iaload, 1) := by decide +kernel
theorem dX11_passed_53 : decode cX11_passed 53 = .ok (.istore_n 3, 1) := by decide +kernel
theorem dX11_passed_54 : decode cX11_passed 54 = .ok (.iload 4, 2) := by decide +kernel
theorem dX11_passed_56 : decode cX11_passed 56 = .ok (.iload_n 2, 1) := by decide +kernel
theorem dX11_passed_57 : decode cX11_passed 57 = .ok (.if_icmp .ne 5, 3) := by decide +kernel
theorem dX11_passed_60 : decode cX11_passed 60 = .ok (.iload_n 3, 1) := by decide +kernel
theorem dX11_passed_61 : decode cX11_passed 61 = .ok (.ireturn, 1) := by decide +kernel
theorem dX11_passed_62 : decode cX11_passed 62 = .ok (.iinc 4 1, 3) := by decide +kernel
theorem dX11_passed_65 : decode cX11_passed 65 = .ok (.goto (-47), 3) := by decide +kernel
theorem dX11_mayHave_0 : decode cX11_mayHave 0 = .ok (.aload_n 0, 1) := by decide +kernel
theorem dX11_mayHave_1 : decode cX11_mayHave 1 = .ok (.aload_n 0, 1) := by decide +kernel
theorem dX11_mayHave_2 : decode cX11_mayHave 2 = .ok (.iload_n 2, 1) := by decide +kernel
theorem dX11_mayHave_3 : decode cX11_mayHave 3 = .ok (.invokevirtual 58, 3) := by decide +kernel
theorem dX11_mayHave_6 : decode cX11_mayHave 6 = .ok (.invokevirtual 79, 3) := by decide +kernel
theorem dX11_mayHave_9 : decode cX11_mayHave 9 = .ok (.istore_n 3, 1) := by decide +kernel
theorem dX11_mayHave_10 : decode cX11_mayHave 10 = .ok (.iload_n 3, 1) := by decide +kernel
theorem dX11_mayHave_11 : decode cX11_mayHave 11 = .ok (.iconst (-1), 1) := by decide +kernel
theorem dX11_mayHave_12 : decode cX11_mayHave 12 = .ok (.if_icmp .eq 37, 3) := by decide +kernel
theorem dX11_mayHave_15 : decode cX11_mayHave 15 = .ok (.aload_n 0, 1) := by decide +kernel
theorem dX11_mayHave_16 : decode cX11_mayHave 16 = .ok (.getfield 7, 3) := by decide +kernel
theorem dX11_mayHave_19 : decode cX11_mayHave 19 = .ok (.iload_n 3, 1) := by decide +kernel
theorem dX11_mayHave_20 : decode cX11_mayHave 20 = .ok (.invokestatic 62, 3) := by decide +kernel
theorem dX11_mayHave_23 : decode cX11_mayHave 23 = .ok (.iconst 3, 1) := by decide +kernel
theorem dX11_mayHave_24 : decode cX11_mayHave 24 = .ok (.iadd, 1) := by decide +kernel
theorem dX11_mayHave_25 : decode cX11_mayHave 25 = .ok (.iaload, 1) := by decide +kernel
theorem dX11_mayHave_26 : decode cX11_mayHave 26 = .ok (.iload_n 1, 1) := by decide +kernel
theorem dX11_mayHave_27 : decode cX11_mayHave 27 = .ok (.if_icmp .eq 18, 3) := by decide +kernel
theorem dX11_mayHave_30 : decode cX11_mayHave 30 = .ok (.aload_n 0, 1) := by decide +kernel
theorem dX11_mayHave_31 : decode cX11_mayHave 31 = .ok (.getfield 7, 3) := by decide +kernel
theorem dX11_mayHave_34 : decode cX11_mayHave 34 = .ok (.iload_n 3, 1) := by decide +kernel
theorem dX11_mayHave_35 : decode cX11_mayHave 35 = .ok (.invokestatic 62, 3) := by decide +kernel
theorem dX11_mayHave_38 : decode cX11_mayHave 38 = .ok (.iconst 4, 1) := by decide +kernel
theorem dX11_mayHave_39 : decode cX11_mayHave 39 = .ok (.iadd, 1) := by decide +kernel
theorem dX11_mayHave_40 : decode cX11_mayHave 40 = .ok (.iaload, 1) := by decide +kernel
theorem dX11_mayHave_41 : decode cX11_mayHave 41 = .ok (.iload_n 1, 1) := by decide +kernel
theorem dX11_mayHave_42 : decode cX11_mayHave 42 = .ok (.if_icmp .ne 7, 3) := by decide +kernel
theorem dX11_mayHave_45 : decode cX11_mayHave 45 = .ok (.iconst 1, 1) := by decide +kernel
theorem dX11_mayHave_46 : decode cX11_mayHave 46 = .ok (.goto 4, 3) := by decide +kernel
theorem dX11_mayHave_49 : decode cX11_mayHave 49 = .ok (.iconst 0, 1) := by decide +kernel
theorem dX11_mayHave_50 : decode cX11_mayHave 50 = .ok (.ireturn, 1) := by decide +kernel
theorem dX11_sound_0 : decode cX11_sound 0 = .ok (.iconst 0, 1) := by decide +kernel
theorem dX11_sound_1 : decode cX11_sound 1 = .ok (.istore_n 1, 1) := by decide +kernel
theorem dX11_sound_2 : decode cX11_sound 2 = .ok (.iload_n 1, 1) := by decide +kernel
theorem dX11_sound_3 : decode cX11_sound 3 = .ok (.bipush 6, 2) := by decide +kernel
theorem dX11_sound_5 : decode cX11_sound 5 = .ok (.if_icmp .ge 65, 3) := by decide +kernel
theorem dX11_sound_8 : decode cX11_sound 8 = .ok (.iconst 0, 1) := by decide +kernel
theorem dX11_sound_9 : decode cX11_sound 9 = .ok (.istore_n 2, 1) := by decide +kernel
theorem dX11_sound_10 : decode cX11_sound 10 = .ok (.iload_n 2, 1) := by decide +kernel
theorem dX11_sound_11 : decode cX11_sound 11 = .ok (.sipush 1000, 3) := by decide +kernel
theorem dX11_sound_14 : decode cX11_sound 14 = .ok (.if_icmp .ge 50, 3) := by decide +kernel
theorem dX11_sound_17 : decode cX11_sound 17 = .ok (.aload_n 0, 1) := by decide +kernel
theorem dX11_sound_18 : decode cX11_sound 18 = .ok (.getfield 7, 3) := by decide +kernel
theorem dX11_sound_21 : decode cX11_sound 21 = .ok (.iload_n 1, 1) := by decide +kernel
theorem dX11_sound_22 : decode cX11_sound 22 = .ok (.iload_n 2, 1) := by decide +kernel
theorem dX11_sound_23 : decode cX11_sound 23 = .ok (.invokestatic 136, 3) := by decide +kernel
theorem dX11_sound_26 : decode cX11_sound 26 = .ok (.iaload, 1) := by decide +kernel
theorem dX11_sound_27 : decode cX11_sound 27 = .ok (.ifCond .le 31, 3) := by decide +kernel
theorem dX11_sound_30 : decode cX11_sound 30 = .ok (.aload_n 0, 1) := by decide +kernel
theorem dX11_sound_31 : decode cX11_sound 31 = .ok (.getfield 7, 3) := by decide +kernel
theorem dX11_sound_34 : decode cX11_sound 34 = .ok (.bipush 42, 2) := by decide +kernel
theorem dX11_sound_36 : decode cX11_sound 36 = .ok (.aload_n 0, 1) := by decide +kernel
theorem dX11_sound_37 : decode cX11_sound 37 = .ok (.iload_n 2, 1) := by decide +kernel
theorem dX11_sound_38 : decode cX11_sound 38 = .ok (.invokevirtual 58, 3) := by decide +kernel
theorem dX11_sound_41 : decode cX11_sound 41 = .ok (.iadd, 1) := by decide +kernel
theorem dX11_sound_42 : decode cX11_sound 42 = .ok (.iaload, 1) := by decide +kernel
theorem dX11_sound_43 : decode cX11_sound 43 = .ok (.iload_n 1, 1) := by decide +kernel
theorem dX11_sound_44 : decode cX11_sound 44 = .ok (.if_icmp .eq 14, 3) := by decide +kernel
theorem dX11_sound_47 : decode cX11_sound 47 = .ok (.aload_n 0, 1) := by decide +kernel
theorem dX11_sound_48 : decode cX11_sound 48 = .ok (.iload_n 1, 1) := by decide +kernel
theorem dX11_sound_49 : decode cX11_sound 49 = .ok (.iload_n 2, 1) := by decide +kernel
theorem dX11_sound_50 : decode cX11_sound 50 = .ok (.invokevirtual 348, 3) := by decide +kernel
theorem dX11_sound_53 : decode cX11_sound 53 = .ok (.ifCond .ne 5, 3) := by decide +kernel
theorem dX11_sound_56 : decode cX11_sound 56 = .ok (.iconst 0, 1) := by decide +kernel
theorem dX11_sound_57 : decode cX11_sound 57 = .ok (.ireturn, 1) := by decide +kernel
theorem dX11_sound_58 : decode cX11_sound 58 = .ok (.iinc 2 1, 3) := by decide +kernel
theorem dX11_sound_61 : decode cX11_sound 61 = .ok (.goto (-51), 3) := by decide +kernel
theorem dX11_sound_64 : decode cX11_sound 64 = .ok (.iinc 1 1, 3) := by decide +kernel
theorem dX11_sound_67 : decode cX11_sound 67 = .ok (.goto (-65), 3) := by decide +kernel
theorem dX11_sound_70 : decode cX11_sound 70 = .ok (.iconst 1, 1) := by decide +kernel
theorem dX11_sound_71 : decode cX11_sound 71 = .ok (.ireturn, 1) := by decide +kernel
theorem dX11_owners_0 : decode cX11_owners 0 = .ok (.iconst 0, 1) := by decide +kernel
theorem dX11_owners_1 : decode cX11_owners 1 = .ok (.istore_n 1, 1) := by decide +kernel
theorem dX11_owners_2 : decode cX11_owners 2 = .ok (.iconst 0, 1) := by decide +kernel
theorem dX11_owners_3 : decode cX11_owners 3 = .ok (.istore_n 2, 1) := by decide +kernel
theorem dX11_owners_4 : decode cX11_owners 4 = .ok (.iload_n 2, 1) := by decide +kernel
theorem dX11_owners_5 : decode cX11_owners 5 = .ok (.aload_n 0, 1) := by decide +kernel
theorem dX11_owners_6 : decode cX11_owners 6 = .ok (.getfield 7, 3) := by decide +kernel
theorem dX11_owners_9 : decode cX11_owners 9 = .ok (.iconst 1, 1) := by decide +kernel
theorem dX11_owners_10 : decode cX11_owners 10 = .ok (.iaload, 1) := by decide +kernel
theorem dX11_owners_11 : decode cX11_owners 11 = .ok (.if_icmp .ge 17, 3) := by decide +kernel
theorem dX11_owners_14 : decode cX11_owners 14 = .ok (.iload_n 1, 1) := by decide +kernel
theorem dX11_owners_15 : decode cX11_owners 15 = .ok (.aload_n 0, 1) := by decide +kernel
theorem dX11_owners_16 : decode cX11_owners 16 = .ok (.iload_n 2, 1) := by decide +kernel
theorem dX11_owners_17 : decode cX11_owners 17 = .ok (.invokevirtual 323, 3) := by decide +kernel
theorem dX11_owners_20 : decode cX11_owners 20 = .ok (.iadd, 1) := by decide +kernel
theorem dX11_owners_21 : decode cX11_owners 21 = .ok (.istore_n 1, 1) := by decide +kernel
theorem dX11_owners_22 : decode cX11_owners 22 = .ok (.iinc 2 1, 3) := by decide +kernel
theorem dX11_owners_25 : decode cX11_owners 25 = .ok (.goto (-21), 3) := by decide +kernel
theorem dX11_owners_28 : decode cX11_owners 28 = .ok (.iload_n 1, 1) := by decide +kernel
theorem dX11_owners_29 : decode cX11_owners 29 = .ok (.ireturn, 1) := by decide +kernel
theorem dX11_spare_0 : decode cX11_spare 0 = .ok (.iconst 0, 1) := by decide +kernel
theorem dX11_spare_1 : decode cX11_spare 1 = .ok (.istore_n 1, 1) := by decide +kernel
theorem dX11_spare_2 : decode cX11_spare 2 = .ok (.iconst 0, 1) := by decide +kernel
theorem dX11_spare_3 : decode cX11_spare 3 = .ok (.istore_n 2, 1) := by decide +kernel
theorem dX11_spare_4 : decode cX11_spare 4 = .ok (.iload_n 2, 1) := by decide +kernel
theorem dX11_spare_5 : decode cX11_spare 5 = .ok (.bipush 6, 2) := by decide +kernel
theorem dX11_spare_7 : decode cX11_spare 7 = .ok (.if_icmp .ge 17, 3) := by decide +kernel
theorem dX11_spare_10 : decode cX11_spare 10 = .ok (.iload_n 1, 1) := by decide +kernel
theorem dX11_spare_11 : decode cX11_spare 11 = .ok (.aload_n 0, 1) := by decide +kernel
theorem dX11_spare_12 : decode cX11_spare 12 = .ok (.iload_n 2, 1) := by decide +kernel
theorem dX11_spare_13 : decode cX11_spare 13 = .ok (.invokevirtual 331, 3) := by decide +kernel
theorem dX11_spare_16 : decode cX11_spare 16 = .ok (.iadd, 1) := by decide +kernel
theorem dX11_spare_17 : decode cX11_spare 17 = .ok (.istore_n 1, 1) := by decide +kernel
theorem dX11_spare_18 : decode cX11_spare 18 = .ok (.iinc 2 1, 3) := by decide +kernel
theorem dX11_spare_21 : decode cX11_spare 21 = .ok (.goto (-17), 3) := by decide +kernel
theorem dX11_spare_24 : decode cX11_spare 24 = .ok (.iload_n 1, 1) := by decide +kernel
theorem dX11_spare_25 : decode cX11_spare 25 = .ok (.aload_n 0, 1) := by decide +kernel
theorem dX11_spare_26 : decode cX11_spare 26 = .ok (.invokevirtual 351, 3) := by decide +kernel
theorem dX11_spare_29 : decode cX11_spare 29 = .ok (.isub, 1) := by decide +kernel
theorem dX11_spare_30 : decode cX11_spare 30 = .ok (.ireturn, 1) := by decide +kernel
theorem dX11_outer_0 : decode cX11_outer 0 = .ok (.iconst (-1), 1) := by decide +kernel
theorem dX11_outer_1 : decode cX11_outer 1 = .ok (.istore_n 2, 1) := by decide +kernel
theorem dX11_outer_2 : decode cX11_outer 2 = .ok (.iconst 0, 1) := by decide +kernel
theorem dX11_outer_3 : decode cX11_outer 3 = .ok (.istore_n 3, 1) := by decide +kernel
theorem dX11_outer_4 : decode cX11_outer 4 = .ok (.iload_n 3, 1) := by decide +kernel
theorem dX11_outer_5 : decode cX11_outer 5 = .ok (.bipush 6, 2) := by decide +kernel
theorem dX11_outer_7 : decode cX11_outer 7 = .ok (.if_icmp .ge 65, 3) := by decide +kernel
theorem dX11_outer_10 : decode cX11_outer 10 = .ok (.aload_n 0, 1) := by decide +kernel
theorem dX11_outer_11 : decode cX11_outer 11 = .ok (.getfield 7, 3) := by decide +kernel
theorem dX11_outer_14 : decode cX11_outer 14 = .ok (.iconst 4, 1) := by decide +kernel
theorem dX11_outer_15 : decode cX11_outer 15 = .ok (.iload_n 3, 1) := by decide +kernel
theorem dX11_outer_16 : decode cX11_outer 16 = .ok (.iadd, 1) := by decide +kernel
theorem dX11_outer_17 : decode cX11_outer 17 = .ok (.iaload, 1) := by decide +kernel
theorem dX11_outer_18 : decode cX11_outer 18 = .ok (.ifCond .ne 6, 3) := by decide +kernel
theorem dX11_outer_21 : decode cX11_outer 21 = .ok (.goto 45, 3) := by decide +kernel
theorem dX11_outer_24 : decode cX11_outer 24 = .ok (.iload_n 2, 1) := by decide +kernel
theorem dX11_outer_25 : decode cX11_outer 25 = .ok (.iconst (-1), 1) := by decide +kernel
theorem dX11_outer_26 : decode cX11_outer 26 = .ok (.if_icmp .eq 38, 3) := by decide +kernel
theorem dX11_outer_29 : decode cX11_outer 29 = .ok (.iload_n 1, 1) := by decide +kernel
theorem dX11_outer_30 : decode cX11_outer 30 = .ok (.ifCond .eq 20, 3) := by decide +kernel
theorem dX11_outer_33 : decode cX11_outer 33 = .ok (.aload_n 0, 1) := by decide +kernel
theorem dX11_outer_34 : decode cX11_outer 34 = .ok (.iload_n 3, 1) := by decide +kernel
theorem dX11_outer_35 : decode cX11_outer 35 = .ok (.invokevirtual 337, 3) := by decide +kernel
theorem dX11_outer_38 : decode cX11_outer 38 = .ok (.aload_n 0, 1) := by decide +kernel
theorem dX11_outer_39 : decode cX11_outer 39 = .ok (.iload_n 2, 1) := by decide +kernel
theorem dX11_outer_40 : decode cX11_outer 40 = .ok (.invokevirtual 337, 3) := by decide +kernel
theorem dX11_outer_43 : decode cX11_outer 43 = .ok (.lcmp, 1) := by decide +kernel
theorem dX11_outer_44 : decode cX11_outer 44 = .ok (.ifCond .le 22, 3) := by decide +kernel
theorem dX11_outer_47 : decode cX11_outer 47 = .ok (.goto 17, 3) := by decide +kernel
theorem dX11_outer_50 : decode cX11_outer 50 = .ok (.aload_n 0, 1) := by decide +kernel
theorem dX11_outer_51 : decode cX11_outer 51 = .ok (.iload_n 3, 1) := by decide +kernel
theorem dX11_outer_52 : decode cX11_outer 52 = .ok (.invokevirtual 337, 3) := by decide +kernel
theorem dX11_outer_55 : decode cX11_outer 55 = .ok (.aload_n 0, 1) := by decide +kernel
theorem dX11_outer_56 : decode cX11_outer 56 = .ok (.iload_n 2, 1) := by decide +kernel
theorem dX11_outer_57 : decode cX11_outer 57 = .ok (.invokevirtual 337, 3) := by decide +kernel
theorem dX11_outer_60 : decode cX11_outer 60 = .ok (.lcmp, 1) := by decide +kernel
theorem dX11_outer_61 : decode cX11_outer 61 = .ok (.ifCond .ge 5, 3) := by decide +kernel
theorem dX11_outer_64 : decode cX11_outer 64 = .ok (.iload_n 3, 1) := by decide +kernel
theorem dX11_outer_65 : decode cX11_outer 65 = .ok (.istore_n 2, 1) := by decide +kernel
theorem dX11_outer_66 : decode cX11_outer 66 = .ok (.iinc 3 1, 3) := by decide +kernel
theorem dX11_outer_69 : decode cX11_outer 69 = .ok (.goto (-65), 3) := by decide +kernel
theorem dX11_outer_72 : decode cX11_outer 72 = .ok (.iload_n 2, 1) := by decide +kernel
theorem dX11_outer_73 : decode cX11_outer 73 = .ok (.ireturn, 1) := by decide +kernel
theorem dX11_evenOf_0 : decode cX11_evenOf 0 = .ok (.aload_n 0, 1) := by decide +kernel
theorem dX11_evenOf_1 : decode cX11_evenOf 1 = .ok (.iconst 1, 1) := by decide +kernel
theorem dX11_evenOf_2 : decode cX11_evenOf 2 = .ok (.invokevirtual 354, 3) := by decide +kernel
theorem dX11_evenOf_5 : decode cX11_evenOf 5 = .ok (.istore_n 1, 1) := by decide +kernel
theorem dX11_evenOf_6 : decode cX11_evenOf 6 = .ok (.iload_n 1, 1) := by decide +kernel
theorem dX11_evenOf_7 : decode cX11_evenOf 7 = .ok (.iconst (-1), 1) := by decide +kernel
theorem dX11_evenOf_8 : decode cX11_evenOf 8 = .ok (.if_icmp .ne 9, 3) := by decide +kernel
theorem dX11_evenOf_11 : decode cX11_evenOf 11 = .ok (.ldc2_w 326, 3) := by decide +kernel
theorem dX11_evenOf_14 : decode cX11_evenOf 14 = .ok (.goto 18, 3) := by decide +kernel
theorem dX11_evenOf_17 : decode cX11_evenOf 17 = .ok (.aload_n 0, 1) := by decide +kernel
theorem dX11_evenOf_18 : decode cX11_evenOf 18 = .ok (.iload_n 1, 1) := by decide +kernel
theorem dX11_evenOf_19 : decode cX11_evenOf 19 = .ok (.invokevirtual 337, 3) := by decide +kernel
theorem dX11_evenOf_22 : decode cX11_evenOf 22 = .ok (.aload_n 0, 1) := by decide +kernel
theorem dX11_evenOf_23 : decode cX11_evenOf 23 = .ok (.aload_n 0, 1) := by decide +kernel
theorem dX11_evenOf_24 : decode cX11_evenOf 24 = .ok (.iconst 0, 1) := by decide +kernel
theorem dX11_evenOf_25 : decode cX11_evenOf 25 = .ok (.invokevirtual 354, 3) := by decide +kernel
theorem dX11_evenOf_28 : decode cX11_evenOf 28 = .ok (.invokevirtual 337, 3) := by decide +kernel
theorem dX11_evenOf_31 : decode cX11_evenOf 31 = .ok (.lsub, 1) := by decide +kernel
theorem dX11_evenOf_32 : decode cX11_evenOf 32 = .ok (.lreturn, 1) := by decide +kernel
theorem dX11_even_0 : decode cX11_even 0 = .ok (.aload_n 0, 1) := by decide +kernel
theorem dX11_even_1 : decode cX11_even 1 = .ok (.invokevirtual 358, 3) := by decide +kernel
theorem dX11_even_4 : decode cX11_even 4 = .ok (.lreturn, 1) := by decide +kernel
theorem dX11_size_0 : decode cX11_size 0 = .ok (.lload_n 0, 1) := by decide +kernel
theorem dX11_size_1 : decode cX11_size 1 = .ok (.lconst 0, 1) := by decide +kernel
theorem dX11_size_2 : decode cX11_size 2 = .ok (.lcmp, 1) := by decide +kernel
theorem dX11_size_3 : decode cX11_size 3 = .ok (.ifCond .ge 8, 3) := by decide +kernel
theorem dX11_size_6 : decode cX11_size 6 = .ok (.lload_n 0, 1) := by decide +kernel
theorem dX11_size_7 : decode cX11_size 7 = .ok (.lneg, 1) := by decide +kernel
theorem dX11_size_8 : decode cX11_size 8 = .ok (.goto 4, 3) := by decide +kernel
theorem dX11_size_11 : decode cX11_size 11 = .ok (.lload_n 0, 1) := by decide +kernel
theorem dX11_size_12 : decode cX11_size 12 = .ok (.lreturn, 1) := by decide +kernel
theorem dX11_spanToMove_0 : decode cX11_spanToMove 0 = .ok (.iconst (-1), 1) := by decide +kernel
theorem dX11_spanToMove_1 : decode cX11_spanToMove 1 = .ok (.istore 5, 2) := by decide +kernel
theorem dX11_spanToMove_3 : decode cX11_spanToMove 3 = .ok (.iconst 0, 1) := by decide +kernel
theorem dX11_spanToMove_4 : decode cX11_spanToMove 4 = .ok (.istore 6, 2) := by decide +kernel
theorem dX11_spanToMove_6 : decode cX11_spanToMove 6 = .ok (.iload 6, 2) := by decide +kernel
theorem dX11_spanToMove_8 : decode cX11_spanToMove 8 = .ok (.aload_n 0, 1) := by decide +kernel
theorem dX11_spanToMove_9 : decode cX11_spanToMove 9 = .ok (.getfield 7, 3) := by decide +kernel
theorem dX11_spanToMove_12 : decode cX11_spanToMove 12 = .ok (.iconst 1, 1) := by decide +kernel
theorem dX11_spanToMove_13 : decode cX11_spanToMove 13 = .ok (.iaload, 1) := by decide +kernel
theorem dX11_spanToMove_14 : decode cX11_spanToMove 14 = .ok (.if_icmp .ge 98, 3) := by decide +kernel
theorem dX11_spanToMove_17 : decode cX11_spanToMove 17 = .ok (.aload_n 0, 1) := by decide +kernel
theorem dX11_spanToMove_18 : decode cX11_spanToMove 18 = .ok (.iload 6, 2) := by decide +kernel
theorem dX11_spanToMove_20 : decode cX11_spanToMove 20 = .ok (.invokevirtual 73, 3) := by decide +kernel
theorem dX11_spanToMove_23 : decode cX11_spanToMove 23 = .ok (.lstore 7, 2) := by decide +kernel
theorem dX11_spanToMove_25 : decode cX11_spanToMove 25 = .ok (.aload_n 0, 1) := by decide +kernel
theorem dX11_spanToMove_26 : decode cX11_spanToMove 26 = .ok (.getfield 7, 3) := by decide +kernel
theorem dX11_spanToMove_29 : decode cX11_spanToMove 29 = .ok (.bipush 42, 2) := by decide +kernel
theorem dX11_spanToMove_31 : decode cX11_spanToMove 31 = .ok (.iload 6, 2) := by decide +kernel
theorem dX11_spanToMove_33 : decode cX11_spanToMove 33 = .ok (.iadd, 1) := by decide +kernel
theorem dX11_spanToMove_34 : decode cX11_spanToMove 34 = .ok (.iaload, 1) := by decide +kernel
theorem dX11_spanToMove_35 : decode cX11_spanToMove 35 = .ok (.iload_n 1, 1) := by decide +kernel
theorem dX11_spanToMove_36 : decode cX11_spanToMove 36 = .ok (.if_icmp .ne 70, 3) := by decide +kernel
theorem dX11_spanToMove_39 : decode cX11_spanToMove 39 = .ok (.aload_n 0, 1) := by decide +kernel
theorem dX11_spanToMove_40 : decode cX11_spanToMove 40 = .ok (.iload 6, 2) := by decide +kernel
theorem dX11_spanToMove_42 : decode cX11_spanToMove 42 = .ok (.invokevirtual 79, 3) := by decide +kernel
theorem dX11_spanToMove_45 : decode cX11_spanToMove 45 = .ok (.iconst (-1), 1) := by decide +kernel
theorem dX11_spanToMove_46 : decode cX11_spanToMove 46 = .ok (.if_icmp .ne 60, 3) := by decide +kernel
theorem dX11_spanToMove_49 : decode cX11_spanToMove 49 = .ok (.lload 7, 2) := by decide +kernel
theorem dX11_spanToMove_51 : decode cX11_spanToMove 51 = .ok (.lconst 0, 1) := by decide +kernel
theorem dX11_spanToMove_52 : decode cX11_spanToMove 52 = .ok (.lcmp, 1) := by decide +kernel
theorem dX11_spanToMove_53 : decode cX11_spanToMove 53 = .ok (.ifCond .eq 53, 3) := by decide +kernel
theorem dX11_spanToMove_56 : decode cX11_spanToMove 56 = .ok (.lload 7, 2) := by decide +kernel
theorem dX11_spanToMove_58 : decode cX11_spanToMove 58 = .ok (.lload_n 3, 1) := by decide +kernel
theorem dX11_spanToMove_59 : decode cX11_spanToMove 59 = .ok (.lcmp, 1) := by decide +kernel
theorem dX11_spanToMove_60 : decode cX11_spanToMove 60 = .ok (.ifCond .lt 6, 3) := by decide +kernel
theorem dX11_spanToMove_63 : decode cX11_spanToMove 63 = .ok (.goto 43, 3) := by decide +kernel
theorem dX11_spanToMove_66 : decode cX11_spanToMove 66 = .ok (.iload 5, 2) := by decide +kernel
theorem dX11_spanToMove_68 : decode cX11_spanToMove 68 = .ok (.iconst (-1), 1) := by decide +kernel
theorem dX11_spanToMove_69 : decode cX11_spanToMove 69 = .ok (.if_icmp .eq 33, 3) := by decide +kernel
theorem dX11_spanToMove_72 : decode cX11_spanToMove 72 = .ok (.lload_n 3, 1) := by decide +kernel
theorem dX11_spanToMove_73 : decode cX11_spanToMove 73 = .ok (.ldc2_w 77, 3) := by decide +kernel
theorem dX11_spanToMove_76 : decode cX11_spanToMove 76 = .ok (.lload 7, 2) := by decide +kernel
theorem dX11_spanToMove_78 : decode cX11_spanToMove 78 = .ok (.lmul, 1) := by decide +kernel
theorem dX11_spanToMove_79 : decode cX11_spanToMove 79 = .ok (.lsub, 1) := by decide +kernel
theorem dX11_spanToMove_80 : decode cX11_spanToMove 80 = .ok (.invokestatic 361, 3) := by decide +kernel
theorem dX11_spanToMove_83 : decode cX11_spanToMove 83 = .ok (.lload_n 3, 1) := by decide +kernel
theorem dX11_spanToMove_84 : decode cX11_spanToMove 84 = .ok (.ldc2_w 77, 3) := by decide +kernel
theorem dX11_spanToMove_87 : decode cX11_spanToMove 87 = .ok (.aload_n 0, 1) := by decide +kernel
theorem dX11_spanToMove_88 : decode cX11_spanToMove 88 = .ok (.iload 5, 2) := by decide +kernel
theorem dX11_spanToMove_90 : decode cX11_spanToMove 90 = .ok (.invokevirtual 73, 3) := by decide +kernel
theorem dX11_spanToMove_93 : decode cX11_spanToMove 93 = .ok (.lmul, 1) := by decide +kernel
theorem dX11_spanToMove_94 : decode cX11_spanToMove 94 = .ok (.lsub, 1) := by decide +kernel
theorem dX11_spanToMove_95 : decode cX11_spanToMove 95 = .ok (.invokestatic 361, 3) := by decide +kernel
theorem dX11_spanToMove_98 : decode cX11_spanToMove 98 = .ok (.lcmp, 1) := by decide +kernel
theorem dX11_spanToMove_99 : decode cX11_spanToMove 99 = .ok (.ifCond .ge 7, 3) := by decide +kernel
theorem dX11_spanToMove_102 : decode cX11_spanToMove 102 = .ok (.iload 6, 2) := by decide +kernel
theorem dX11_spanToMove_104 : decode cX11_spanToMove 104 = .ok (.istore 5, 2) := by decide +kernel
theorem dX11_spanToMove_106 : decode cX11_spanToMove 106 = .ok (.iinc 6 1, 3) := by decide +kernel
theorem dX11_spanToMove_109 : decode cX11_spanToMove 109 = .ok (.goto (-103), 3) := by decide +kernel
theorem dX11_spanToMove_112 : decode cX11_spanToMove 112 = .ok (.iload_n 2, 1) := by decide +kernel
theorem dX11_spanToMove_113 : decode cX11_spanToMove 113 = .ok (.iload_n 1, 1) := by decide +kernel
theorem dX11_spanToMove_114 : decode cX11_spanToMove 114 = .ok (.if_icmp .ne 7, 3) := by decide +kernel
theorem dX11_spanToMove_117 : decode cX11_spanToMove 117 = .ok (.iconst (-1), 1) := by decide +kernel
theorem dX11_spanToMove_118 : decode cX11_spanToMove 118 = .ok (.goto 5, 3) := by decide +kernel
theorem dX11_spanToMove_121 : decode cX11_spanToMove 121 = .ok (.iload 5, 2) := by decide +kernel
theorem dX11_spanToMove_123 : decode cX11_spanToMove 123 = .ok (.ireturn, 1) := by decide +kernel
theorem dX11_spanToSplit_0 : decode cX11_spanToSplit 0 = .ok (.iconst (-1), 1) := by decide +kernel
theorem dX11_spanToSplit_1 : decode cX11_spanToSplit 1 = .ok (.istore_n 2, 1) := by decide +kernel
theorem dX11_spanToSplit_2 : decode cX11_spanToSplit 2 = .ok (.iconst 0, 1) := by decide +kernel
theorem dX11_spanToSplit_3 : decode cX11_spanToSplit 3 = .ok (.istore_n 3, 1) := by decide +kernel
theorem dX11_spanToSplit_4 : decode cX11_spanToSplit 4 = .ok (.iload_n 3, 1) := by decide +kernel
theorem dX11_spanToSplit_5 : decode cX11_spanToSplit 5 = .ok (.aload_n 0, 1) := by decide +kernel
theorem dX11_spanToSplit_6 : decode cX11_spanToSplit 6 = .ok (.getfield 7, 3) := by decide +kernel
theorem dX11_spanToSplit_9 : decode cX11_spanToSplit 9 = .ok (.iconst 1, 1) := by decide +kernel
theorem dX11_spanToSplit_10 : decode cX11_spanToSplit 10 = .ok (.iaload, 1) := by decide +kernel
theorem dX11_spanToSplit_11 : decode cX11_spanToSplit 11 = .ok (.if_icmp .ge 75, 3) := by decide +kernel
theorem dX11_spanToSplit_14 : decode cX11_spanToSplit 14 = .ok (.aload_n 0, 1) := by decide +kernel
theorem dX11_spanToSplit_15 : decode cX11_spanToSplit 15 = .ok (.getfield 7, 3) := by decide +kernel
theorem dX11_spanToSplit_18 : decode cX11_spanToSplit 18 = .ok (.iconst 1, 1) := by decide +kernel
theorem dX11_spanToSplit_19 : decode cX11_spanToSplit 19 = .ok (.iaload, 1) := by decide +kernel
theorem dX11_spanToSplit_20 : decode cX11_spanToSplit 20 = .ok (.bipush 32, 2) := by decide +kernel
theorem dX11_spanToSplit_22 : decode cX11_spanToSplit 22 = .ok (.if_icmp .ge 64, 3) := by decide +kernel
theorem dX11_spanToSplit_25 : decode cX11_spanToSplit 25 = .ok (.aload_n 0, 1) := by decide +kernel
theorem dX11_spanToSplit_26 : decode cX11_spanToSplit 26 = .ok (.getfield 7, 3) := by decide +kernel
theorem dX11_spanToSplit_29 : decode cX11_spanToSplit 29 = .ok (.bipush 42, 2) := by decide +kernel
theorem dX11_spanToSplit_31 : decode cX11_spanToSplit 31 = .ok (.iload_n 3, 1) := by decide +kernel
theorem dX11_spanToSplit_32 : decode cX11_spanToSplit 32 = .ok (.iadd, 1) := by decide +kernel
theorem dX11_spanToSplit_33 : decode cX11_spanToSplit 33 = .ok (.iaload, 1) := by decide +kernel
theorem dX11_spanToSplit_34 : decode cX11_spanToSplit 34 = .ok (.iload_n 1, 1) := by decide +kernel
theorem dX11_spanToSplit_35 : decode cX11_spanToSplit 35 = .ok (.if_icmp .ne 45, 3) := by decide +kernel
theorem dX11_spanToSplit_38 : decode cX11_spanToSplit 38 = .ok (.aload_n 0, 1) := by decide +kernel
theorem dX11_spanToSplit_39 : decode cX11_spanToSplit 39 = .ok (.iload_n 3, 1) := by decide +kernel
theorem dX11_spanToSplit_40 : decode cX11_spanToSplit 40 = .ok (.invokevirtual 79, 3) := by decide +kernel
theorem dX11_spanToSplit_43 : decode cX11_spanToSplit 43 = .ok (.iconst (-1), 1) := by decide +kernel
theorem dX11_spanToSplit_44 : decode cX11_spanToSplit 44 = .ok (.if_icmp .ne 36, 3) := by decide +kernel
theorem dX11_spanToSplit_47 : decode cX11_spanToSplit 47 = .ok (.aload_n 0, 1) := by decide +kernel
theorem dX11_spanToSplit_48 : decode cX11_spanToSplit 48 = .ok (.iload_n 3, 1) := by decide +kernel
theorem dX11_spanToSplit_49 : decode cX11_spanToSplit 49 = .ok (.invokevirtual 107, 3) := by decide +kernel
theorem dX11_spanToSplit_52 : decode cX11_spanToSplit 52 = .ok (.iconst (-1), 1) := by decide +kernel
theorem dX11_spanToSplit_53 : decode cX11_spanToSplit 53 = .ok (.if_icmp .ne 6, 3) := by decide +kernel
theorem dX11_spanToSplit_56 : decode cX11_spanToSplit 56 = .ok (.goto 24, 3) := by decide +kernel
theorem dX11_spanToSplit_59 : decode cX11_spanToSplit 59 = .ok (.iload_n 2, 1) := by decide +kernel
theorem dX11_spanToSplit_60 : decode cX11_spanToSplit 60 = .ok (.iconst (-1), 1) := by decide +kernel
theorem dX11_spanToSplit_61 : decode cX11_spanToSplit 61 = .ok (.if_icmp .eq 17, 3) := by decide +kernel
theorem dX11_spanToSplit_64 : decode cX11_spanToSplit 64 = .ok (.aload_n 0, 1) := by decide +kernel
theorem dX11_spanToSplit_65 : decode cX11_spanToSplit 65 = .ok (.iload_n 3, 1) := by decide +kernel
theorem dX11_spanToSplit_66 : decode cX11_spanToSplit 66 = .ok (.invokevirtual 73, 3) := by decide +kernel
theorem dX11_spanToSplit_69 : decode cX11_spanToSplit 69 = .ok (.aload_n 0, 1) := by decide +kernel
theorem dX11_spanToSplit_70 : decode cX11_spanToSplit 70 = .ok (.iload_n 2, 1) := by decide +kernel
theorem dX11_spanToSplit_71 : decode cX11_spanToSplit 71 = .ok (.invokevirtual 73, 3) := by decide +kernel
theorem dX11_spanToSplit_74 : decode cX11_spanToSplit 74 = .ok (.lcmp, 1) := by decide +kernel
theorem dX11_spanToSplit_75 : decode cX11_spanToSplit 75 = .ok (.ifCond .le 5, 3) := by decide +kernel
theorem dX11_spanToSplit_78 : decode cX11_spanToSplit 78 = .ok (.iload_n 3, 1) := by decide +kernel
theorem dX11_spanToSplit_79 : decode cX11_spanToSplit 79 = .ok (.istore_n 2, 1) := by decide +kernel
theorem dX11_spanToSplit_80 : decode cX11_spanToSplit 80 = .ok (.iinc 3 1, 3) := by decide +kernel
theorem dX11_spanToSplit_83 : decode cX11_spanToSplit 83 = .ok (.goto (-79), 3) := by decide +kernel
theorem dX11_spanToSplit_86 : decode cX11_spanToSplit 86 = .ok (.iload_n 2, 1) := by decide +kernel
theorem dX11_spanToSplit_87 : decode cX11_spanToSplit 87 = .ok (.ireturn, 1) := by decide +kernel
theorem dX11_laysNext_0 : decode cX11_laysNext 0 = .ok (.aload_n 0, 1) := by decide +kernel
theorem dX11_laysNext_1 : decode cX11_laysNext 1 = .ok (.iconst 0, 1) := by decide +kernel
theorem dX11_laysNext_2 : decode cX11_laysNext 2 = .ok (.putfield 365, 3) := by decide +kernel
theorem dX11_laysNext_5 : decode cX11_laysNext 5 = .ok (.aload_n 0, 1) := by decide +kernel
theorem dX11_laysNext_6 : decode cX11_laysNext 6 = .ok (.iconst (-1), 1) := by decide +kernel
theorem dX11_laysNext_7 : decode cX11_laysNext 7 = .ok (.putfield 368, 3) := by decide +kernel
theorem dX11_laysNext_10 : decode cX11_laysNext 10 = .ok (.aload_n 0, 1) := by decide +kernel
theorem dX11_laysNext_11 : decode cX11_laysNext 11 = .ok (.iconst (-1), 1) := by decide +kernel
theorem dX11_laysNext_12 : decode cX11_laysNext 12 = .ok (.putfield 371, 3) := by decide +kernel
theorem dX11_laysNext_15 : decode cX11_laysNext 15 = .ok (.aload_n 0, 1) := by decide +kernel
theorem dX11_laysNext_16 : decode cX11_laysNext 16 = .ok (.invokevirtual 358, 3) := by decide +kernel
theorem dX11_laysNext_19 : decode cX11_laysNext 19 = .ok (.lstore_n 1, 1) := by decide +kernel
theorem dX11_laysNext_20 : decode cX11_laysNext 20 = .ok (.lload_n 1, 1) := by decide +kernel
theorem dX11_laysNext_21 : decode cX11_laysNext 21 = .ok (.lconst 0, 1) := by decide +kernel
theorem dX11_laysNext_22 : decode cX11_laysNext 22 = .ok (.lcmp, 1) := by decide +kernel
theorem dX11_laysNext_23 : decode cX11_laysNext 23 = .ok (.ifCond .gt 4, 3) := by decide +kernel
theorem dX11_laysNext_26 : decode cX11_laysNext 26 = .ok (.return_, 1) := by decide +kernel
theorem dX11_laysNext_27 : decode cX11_laysNext 27 = .ok (.aload_n 0, 1) := by decide +kernel
theorem dX11_laysNext_28 : decode cX11_laysNext 28 = .ok (.iconst 1, 1) := by decide +kernel
theorem dX11_laysNext_29 : decode cX11_laysNext 29 = .ok (.invokevirtual 354, 3) := by decide +kernel
theorem dX11_laysNext_32 : decode cX11_laysNext 32 = .ok (.istore_n 3, 1) := by decide +kernel
theorem dX11_laysNext_33 : decode cX11_laysNext 33 = .ok (.aload_n 0, 1) := by decide +kernel
theorem dX11_laysNext_34 : decode cX11_laysNext 34 = .ok (.iconst 0, 1) := by decide +kernel
theorem dX11_laysNext_35 : decode cX11_laysNext 35 = .ok (.invokevirtual 354, 3) := by decide +kernel
theorem dX11_laysNext_38 : decode cX11_laysNext 38 = .ok (.istore 4, 2) := by decide +kernel
theorem dX11_laysNext_40 : decode cX11_laysNext 40 = .ok (.aload_n 0, 1) := by decide +kernel
theorem dX11_laysNext_41 : decode cX11_laysNext 41 = .ok (.iload_n 3, 1) := by decide +kernel
theorem dX11_laysNext_42 : decode cX11_laysNext 42 = .ok (.iload 4, 2) := by decide +kernel
theorem dX11_laysNext_44 : decode cX11_laysNext 44 = .ok (.lload_n 1, 1) := by decide +kernel
theorem dX11_laysNext_45 : decode cX11_laysNext 45 = .ok (.invokevirtual 374, 3) := by decide +kernel
theorem dX11_laysNext_48 : decode cX11_laysNext 48 = .ok (.istore 5, 2) := by decide +kernel
theorem dX11_laysNext_50 : decode cX11_laysNext 50 = .ok (.iload 5, 2) := by decide +kernel
theorem dX11_laysNext_52 : decode cX11_laysNext 52 = .ok (.iconst (-1), 1) := by decide +kernel
theorem dX11_laysNext_53 : decode cX11_laysNext 53 = .ok (.if_icmp .eq 21, 3) := by decide +kernel
theorem dX11_laysNext_56 : decode cX11_laysNext 56 = .ok (.aload_n 0, 1) := by decide +kernel
theorem dX11_laysNext_57 : decode cX11_laysNext 57 = .ok (.iconst 1, 1) := by decide +kernel
theorem dX11_laysNext_58 : decode cX11_laysNext 58 = .ok (.putfield 365, 3) := by decide +kernel
theorem dX11_laysNext_61 : decode cX11_laysNext 61 = .ok (.aload_n 0, 1) := by decide +kernel
theorem dX11_laysNext_62 : decode cX11_laysNext 62 = .ok (.iload 5, 2) := by decide +kernel
theorem dX11_laysNext_64 : decode cX11_laysNext 64 = .ok (.putfield 368, 3) := by decide +kernel
theorem dX11_laysNext_67 : decode cX11_laysNext 67 = .ok (.aload_n 0, 1) := by decide +kernel
theorem dX11_laysNext_68 : decode cX11_laysNext 68 = .ok (.iload 4, 2) := by decide +kernel
theorem dX11_laysNext_70 : decode cX11_laysNext 70 = .ok (.putfield 371, 3) := by decide +kernel
theorem dX11_laysNext_73 : decode cX11_laysNext 73 = .ok (.return_, 1) := by decide +kernel
theorem dX11_laysNext_74 : decode cX11_laysNext 74 = .ok (.aload_n 0, 1) := by decide +kernel
theorem dX11_laysNext_75 : decode cX11_laysNext 75 = .ok (.iload_n 3, 1) := by decide +kernel
theorem dX11_laysNext_76 : decode cX11_laysNext 76 = .ok (.invokevirtual 378, 3) := by decide +kernel
theorem dX11_laysNext_79 : decode cX11_laysNext 79 = .ok (.istore 5, 2) := by decide +kernel
theorem dX11_laysNext_81 : decode cX11_laysNext 81 = .ok (.iload 5, 2) := by decide +kernel
theorem dX11_laysNext_83 : decode cX11_laysNext 83 = .ok (.iconst (-1), 1) := by decide +kernel
theorem dX11_laysNext_84 : decode cX11_laysNext 84 = .ok (.if_icmp .ne 4, 3) := by decide +kernel
theorem dX11_laysNext_87 : decode cX11_laysNext 87 = .ok (.return_, 1) := by decide +kernel
theorem dX11_laysNext_88 : decode cX11_laysNext 88 = .ok (.aload_n 0, 1) := by decide +kernel
theorem dX11_laysNext_89 : decode cX11_laysNext 89 = .ok (.iconst 2, 1) := by decide +kernel
theorem dX11_laysNext_90 : decode cX11_laysNext 90 = .ok (.putfield 365, 3) := by decide +kernel
theorem dX11_laysNext_93 : decode cX11_laysNext 93 = .ok (.aload_n 0, 1) := by decide +kernel
theorem dX11_laysNext_94 : decode cX11_laysNext 94 = .ok (.iload 5, 2) := by decide +kernel
theorem dX11_laysNext_96 : decode cX11_laysNext 96 = .ok (.putfield 368, 3) := by decide +kernel
theorem dX11_laysNext_99 : decode cX11_laysNext 99 = .ok (.aload_n 0, 1) := by decide +kernel
theorem dX11_laysNext_100 : decode cX11_laysNext 100 = .ok (.aload_n 0, 1) := by decide +kernel
theorem dX11_laysNext_101 : decode cX11_laysNext 101 = .ok (.iload 5, 2) := by decide +kernel
theorem dX11_laysNext_103 : decode cX11_laysNext 103 = .ok (.invokevirtual 107, 3) := by decide +kernel
theorem dX11_laysNext_106 : decode cX11_laysNext 106 = .ok (.putfield 371, 3) := by decide +kernel
theorem dX11_laysNext_109 : decode cX11_laysNext 109 = .ok (.return_, 1) := by decide +kernel
theorem dX11_next_0 : decode cX11_next 0 = .ok (.aload_n 0, 1) := by decide +kernel
theorem dX11_next_1 : decode cX11_next 1 = .ok (.invokevirtual 381, 3) := by decide +kernel
theorem dX11_next_4 : decode cX11_next 4 = .ok (.iload_n 1, 1) := by decide +kernel
theorem dX11_next_5 : decode cX11_next 5 = .ok (.ifCond .ne 10, 3) := by decide +kernel
theorem dX11_next_8 : decode cX11_next 8 = .ok (.aload_n 0, 1) := by decide +kernel
theorem dX11_next_9 : decode cX11_next 9 = .ok (.getfield 365, 3) := by decide +kernel
theorem dX11_next_12 : decode cX11_next 12 = .ok (.goto 48, 3) := by decide +kernel
theorem dX11_next_15 : decode cX11_next 15 = .ok (.iload_n 1, 1) := by decide +kernel
theorem dX11_next_16 : decode cX11_next 16 = .ok (.iconst 1, 1) := by decide +kernel
theorem dX11_next_17 : decode cX11_next 17 = .ok (.if_icmp .ne 30, 3) := by decide +kernel
theorem dX11_next_20 : decode cX11_next 20 = .ok (.aload_n 0, 1) := by decide +kernel
theorem dX11_next_21 : decode cX11_next 21 = .ok (.getfield 368, 3) := by decide +kernel
theorem dX11_next_24 : decode cX11_next 24 = .ok (.iconst (-1), 1) := by decide +kernel
theorem dX11_next_25 : decode cX11_next 25 = .ok (.if_icmp .ne 7, 3) := by decide +kernel
theorem dX11_next_28 : decode cX11_next 28 = .ok (.iconst (-1), 1) := by decide +kernel
theorem dX11_next_29 : decode cX11_next 29 = .ok (.goto 31, 3) := by decide +kernel
theorem dX11_next_32 : decode cX11_next 32 = .ok (.aload_n 0, 1) := by decide +kernel
theorem dX11_next_33 : decode cX11_next 33 = .ok (.getfield 7, 3) := by decide +kernel
theorem dX11_next_36 : decode cX11_next 36 = .ok (.bipush 10, 2) := by decide +kernel
theorem dX11_next_38 : decode cX11_next 38 = .ok (.aload_n 0, 1) := by decide +kernel
theorem dX11_next_39 : decode cX11_next 39 = .ok (.getfield 368, 3) := by decide +kernel
theorem dX11_next_42 : decode cX11_next 42 = .ok (.iadd, 1) := by decide +kernel
theorem dX11_next_43 : decode cX11_next 43 = .ok (.iaload, 1) := by decide +kernel
theorem dX11_next_44 : decode cX11_next 44 = .ok (.goto 16, 3) := by decide +kernel
theorem dX11_next_47 : decode cX11_next 47 = .ok (.iload_n 1, 1) := by decide +kernel
theorem dX11_next_48 : decode cX11_next 48 = .ok (.iconst 2, 1) := by decide +kernel
theorem dX11_next_49 : decode cX11_next 49 = .ok (.if_icmp .ne 10, 3) := by decide +kernel
theorem dX11_next_52 : decode cX11_next 52 = .ok (.aload_n 0, 1) := by decide +kernel
theorem dX11_next_53 : decode cX11_next 53 = .ok (.getfield 371, 3) := by decide +kernel
theorem dX11_next_56 : decode cX11_next 56 = .ok (.goto 4, 3) := by decide +kernel
theorem dX11_next_59 : decode cX11_next 59 = .ok (.iconst (-1), 1) := by decide +kernel
theorem dX11_next_60 : decode cX11_next 60 = .ok (.ireturn, 1) := by decide +kernel
theorem dX11_rounds_0 : decode cX11_rounds 0 = .ok (.iload_n 1, 1) := by decide +kernel
theorem dX11_rounds_1 : decode cX11_rounds 1 = .ok (.i2l, 1) := by decide +kernel
theorem dX11_rounds_2 : decode cX11_rounds 2 = .ok (.lconst 0, 1) := by decide +kernel
theorem dX11_rounds_3 : decode cX11_rounds 3 = .ok (.ldc2_w 384, 3) := by decide +kernel
theorem dX11_rounds_6 : decode cX11_rounds 6 = .ok (.invokestatic 45, 3) := by decide +kernel
theorem dX11_rounds_9 : decode cX11_rounds 9 = .ok (.ifCond .ne 5, 3) := by decide +kernel
theorem dX11_rounds_12 : decode cX11_rounds 12 = .ok (.iconst (-1), 1) := by decide +kernel
theorem dX11_rounds_13 : decode cX11_rounds 13 = .ok (.ireturn, 1) := by decide +kernel
theorem dX11_rounds_14 : decode cX11_rounds 14 = .ok (.aload_n 0, 1) := by decide +kernel
theorem dX11_rounds_15 : decode cX11_rounds 15 = .ok (.invokevirtual 311, 3) := by decide +kernel
theorem dX11_rounds_18 : decode cX11_rounds 18 = .ok (.iconst 0, 1) := by decide +kernel
theorem dX11_rounds_19 : decode cX11_rounds 19 = .ok (.istore_n 2, 1) := by decide +kernel
theorem dX11_rounds_20 : decode cX11_rounds 20 = .ok (.aload_n 0, 1) := by decide +kernel
theorem dX11_rounds_21 : decode cX11_rounds 21 = .ok (.invokevirtual 358, 3) := by decide +kernel
theorem dX11_rounds_24 : decode cX11_rounds 24 = .ok (.iload_n 1, 1) := by decide +kernel
theorem dX11_rounds_25 : decode cX11_rounds 25 = .ok (.i2l, 1) := by decide +kernel
theorem dX11_rounds_26 : decode cX11_rounds 26 = .ok (.lcmp, 1) := by decide +kernel
theorem dX11_rounds_27 : decode cX11_rounds 27 = .ok (.ifCond .le 7, 3) := by decide +kernel
theorem dX11_rounds_30 : decode cX11_rounds 30 = .ok (.iconst 1, 1) := by decide +kernel
theorem dX11_rounds_31 : decode cX11_rounds 31 = .ok (.goto 4, 3) := by decide +kernel
theorem dX11_rounds_34 : decode cX11_rounds 34 = .ok (.iconst 0, 1) := by decide +kernel
theorem dX11_rounds_35 : decode cX11_rounds 35 = .ok (.istore_n 3, 1) := by decide +kernel
theorem dX11_rounds_36 : decode cX11_rounds 36 = .ok (.iconst 0, 1) := by decide +kernel
theorem dX11_rounds_37 : decode cX11_rounds 37 = .ok (.istore 4, 2) := by decide +kernel
theorem dX11_rounds_39 : decode cX11_rounds 39 = .ok (.iload_n 3, 1) := by decide +kernel
theorem dX11_rounds_40 : decode cX11_rounds 40 = .ok (.ifCond .eq 135, 3) := by decide +kernel
theorem dX11_rounds_43 : decode cX11_rounds 43 = .ok (.iload 4, 2) := by decide +kernel
theorem dX11_rounds_45 : decode cX11_rounds 45 = .ok (.ifCond .ne 130, 3) := by decide +kernel
theorem dX11_rounds_48 : decode cX11_rounds 48 = .ok (.aload_n 0, 1) := by decide +kernel
theorem dX11_rounds_49 : decode cX11_rounds 49 = .ok (.invokevirtual 381, 3) := by decide +kernel
theorem dX11_rounds_52 : decode cX11_rounds 52 = .ok (.iload_n 2, 1) := by decide +kernel
theorem dX11_rounds_53 : decode cX11_rounds 53 = .ok (.bipush 40, 2) := by decide +kernel
theorem dX11_rounds_55 : decode cX11_rounds 55 = .ok (.if_icmp .ne 14, 3) := by decide +kernel
theorem dX11_rounds_58 : decode cX11_rounds 58 = .ok (.aload_n 0, 1) := by decide +kernel
theorem dX11_rounds_59 : decode cX11_rounds 59 = .ok (.getfield 365, 3) := by decide +kernel
theorem dX11_rounds_62 : decode cX11_rounds 62 = .ok (.ifCond .eq 7, 3) := by decide +kernel
theorem dX11_rounds_65 : decode cX11_rounds 65 = .ok (.iconst 1, 1) := by decide +kernel
theorem dX11_rounds_66 : decode cX11_rounds 66 = .ok (.goto 4, 3) := by decide +kernel
theorem dX11_rounds_69 : decode cX11_rounds 69 = .ok (.iconst 0, 1) := by decide +kernel
theorem dX11_rounds_70 : decode cX11_rounds 70 = .ok (.istore 4, 2) := by decide +kernel
theorem dX11_rounds_72 : decode cX11_rounds 72 = .ok (.aload_n 0, 1) := by decide +kernel
theorem dX11_rounds_73 : decode cX11_rounds 73 = .ok (.getfield 365, 3) := by decide +kernel
theorem dX11_rounds_76 : decode cX11_rounds 76 = .ok (.iconst 1, 1) := by decide +kernel
theorem dX11_rounds_77 : decode cX11_rounds 77 = .ok (.if_icmp .ne 27, 3) := by decide +kernel
theorem dX11_rounds_80 : decode cX11_rounds 80 = .ok (.iload 4, 2) := by decide +kernel
theorem dX11_rounds_82 : decode cX11_rounds 82 = .ok (.ifCond .ne 22, 3) := by decide +kernel
theorem dX11_rounds_85 : decode cX11_rounds 85 = .ok (.aload_n 0, 1) := by decide +kernel
theorem dX11_rounds_86 : decode cX11_rounds 86 = .ok (.getfield 7, 3) := by decide +kernel
theorem dX11_rounds_89 : decode cX11_rounds 89 = .ok (.bipush 42, 2) := by decide +kernel
theorem dX11_rounds_91 : decode cX11_rounds 91 = .ok (.aload_n 0, 1) := by decide +kernel
theorem dX11_rounds_92 : decode cX11_rounds 92 = .ok (.getfield 368, 3) := by decide +kernel
theorem dX11_rounds_95 : decode cX11_rounds 95 = .ok (.iadd, 1) := by decide +kernel
theorem dX11_rounds_96 : decode cX11_rounds 96 = .ok (.aload_n 0, 1) := by decide +kernel
theorem dX11_rounds_97 : decode cX11_rounds 97 = .ok (.getfield 371, 3) := by decide +kernel
theorem dX11_rounds_100 : decode cX11_rounds 100 = .ok (.iastore, 1) := by decide +kernel
theorem dX11_rounds_101 : decode cX11_rounds 101 = .ok (.goto 28, 3) := by decide +kernel
theorem dX11_rounds_104 : decode cX11_rounds 104 = .ok (.aload_n 0, 1) := by decide +kernel
theorem dX11_rounds_105 : decode cX11_rounds 105 = .ok (.getfield 365, 3) := by decide +kernel
theorem dX11_rounds_108 : decode cX11_rounds 108 = .ok (.iconst 2, 1) := by decide +kernel
theorem dX11_rounds_109 : decode cX11_rounds 109 = .ok (.if_icmp .ne 20, 3) := by decide +kernel
theorem dX11_rounds_112 : decode cX11_rounds 112 = .ok (.iload 4, 2) := by decide +kernel
theorem dX11_rounds_114 : decode cX11_rounds 114 = .ok (.ifCond .ne 15, 3) := by decide +kernel
theorem dX11_rounds_117 : decode cX11_rounds 117 = .ok (.aload_n 0, 1) := by decide +kernel
theorem dX11_rounds_118 : decode cX11_rounds 118 = .ok (.aload_n 0, 1) := by decide +kernel
theorem dX11_rounds_119 : decode cX11_rounds 119 = .ok (.getfield 368, 3) := by decide +kernel
theorem dX11_rounds_122 : decode cX11_rounds 122 = .ok (.aload_n 0, 1) := by decide +kernel
theorem dX11_rounds_123 : decode cX11_rounds 123 = .ok (.getfield 371, 3) := by decide +kernel
theorem dX11_rounds_126 : decode cX11_rounds 126 = .ok (.invokevirtual 89, 3) := by decide +kernel
theorem dX11_rounds_129 : decode cX11_rounds 129 = .ok (.iload_n 2, 1) := by decide +kernel
theorem dX11_rounds_130 : decode cX11_rounds 130 = .ok (.aload_n 0, 1) := by decide +kernel
theorem dX11_rounds_131 : decode cX11_rounds 131 = .ok (.getfield 365, 3) := by decide +kernel
theorem dX11_rounds_134 : decode cX11_rounds 134 = .ok (.ifCond .eq 8, 3) := by decide +kernel
theorem dX11_rounds_137 : decode cX11_rounds 137 = .ok (.iload 4, 2) := by decide +kernel
theorem dX11_rounds_139 : decode cX11_rounds 139 = .ok (.ifCond .eq 7, 3) := by decide +kernel
theorem dX11_rounds_142 : decode cX11_rounds 142 = .ok (.iconst 0, 1) := by decide +kernel
theorem dX11_rounds_143 : decode cX11_rounds 143 = .ok (.goto 4, 3) := by decide +kernel
theorem dX11_rounds_146 : decode cX11_rounds 146 = .ok (.iconst 1, 1) := by decide +kernel
theorem dX11_rounds_147 : decode cX11_rounds 147 = .ok (.iadd, 1) := by decide +kernel
theorem dX11_rounds_148 : decode cX11_rounds 148 = .ok (.istore_n 2, 1) := by decide +kernel
theorem dX11_rounds_149 : decode cX11_rounds 149 = .ok (.aload_n 0, 1) := by decide +kernel
theorem dX11_rounds_150 : decode cX11_rounds 150 = .ok (.getfield 365, 3) := by decide +kernel
theorem dX11_rounds_153 : decode cX11_rounds 153 = .ok (.ifCond .eq 17, 3) := by decide +kernel
theorem dX11_rounds_156 : decode cX11_rounds 156 = .ok (.aload_n 0, 1) := by decide +kernel
theorem dX11_rounds_157 : decode cX11_rounds 157 = .ok (.invokevirtual 358, 3) := by decide +kernel
theorem dX11_rounds_160 : decode cX11_rounds 160 = .ok (.iload_n 1, 1) := by decide +kernel
theorem dX11_rounds_161 : decode cX11_rounds 161 = .ok (.i2l, 1) := by decide +kernel
theorem dX11_rounds_162 : decode cX11_rounds 162 = .ok (.lcmp, 1) := by decide +kernel
theorem dX11_rounds_163 : decode cX11_rounds 163 = .ok (.ifCond .le 7, 3) := by decide +kernel
theorem dX11_rounds_166 : decode cX11_rounds 166 = .ok (.iconst 1, 1) := by decide +kernel
theorem dX11_rounds_167 : decode cX11_rounds 167 = .ok (.goto 4, 3) := by decide +kernel
theorem dX11_rounds_170 : decode cX11_rounds 170 = .ok (.iconst 0, 1) := by decide +kernel
theorem dX11_rounds_171 : decode cX11_rounds 171 = .ok (.istore_n 3, 1) := by decide +kernel
theorem dX11_rounds_172 : decode cX11_rounds 172 = .ok (.goto (-133), 3) := by decide +kernel
theorem dX11_rounds_175 : decode cX11_rounds 175 = .ok (.aload_n 0, 1) := by decide +kernel
theorem dX11_rounds_176 : decode cX11_rounds 176 = .ok (.invokevirtual 386, 3) := by decide +kernel
theorem dX11_rounds_179 : decode cX11_rounds 179 = .ok (.iload_n 3, 1) := by decide +kernel
theorem dX11_rounds_180 : decode cX11_rounds 180 = .ok (.ifCond .eq 7, 3) := by decide +kernel
theorem dX11_rounds_183 : decode cX11_rounds 183 = .ok (.iconst (-1), 1) := by decide +kernel
theorem dX11_rounds_184 : decode cX11_rounds 184 = .ok (.goto 4, 3) := by decide +kernel
theorem dX11_rounds_187 : decode cX11_rounds 187 = .ok (.iload_n 2, 1) := by decide +kernel
theorem dX11_rounds_188 : decode cX11_rounds 188 = .ok (.ireturn, 1) := by decide +kernel
theorem dX11_heavier_0 : decode cX11_heavier 0 = .ok (.iconst 0, 1) := by decide +kernel
theorem dX11_heavier_1 : decode cX11_heavier 1 = .ok (.istore_n 2, 1) := by decide +kernel
theorem dX11_heavier_2 : decode cX11_heavier 2 = .ok (.iconst 0, 1) := by decide +kernel
theorem dX11_heavier_3 : decode cX11_heavier 3 = .ok (.istore_n 3, 1) := by decide +kernel
theorem dX11_heavier_4 : decode cX11_heavier 4 = .ok (.iload_n 3, 1) := by decide +kernel
theorem dX11_heavier_5 : decode cX11_heavier 5 = .ok (.sipush 1000, 3) := by decide +kernel
theorem dX11_heavier_8 : decode cX11_heavier 8 = .ok (.if_icmp .ge 64, 3) := by decide +kernel
theorem dX11_heavier_11 : decode cX11_heavier 11 = .ok (.iload_n 2, 1) := by decide +kernel
theorem dX11_heavier_12 : decode cX11_heavier 12 = .ok (.aload_n 0, 1) := by decide +kernel
theorem dX11_heavier_13 : decode cX11_heavier 13 = .ok (.getfield 7, 3) := by decide +kernel
theorem dX11_heavier_16 : decode cX11_heavier 16 = .ok (.bipush 106, 2) := by decide +kernel
theorem dX11_heavier_18 : decode cX11_heavier 18 = .ok (.iload_n 3, 1) := by decide +kernel
theorem dX11_heavier_19 : decode cX11_heavier 19 = .ok (.iadd, 1) := by decide +kernel
theorem dX11_heavier_20 : decode cX11_heavier 20 = .ok (.iaload, 1) := by decide +kernel
theorem dX11_heavier_21 : decode cX11_heavier 21 = .ok (.aload_n 0, 1) := by decide +kernel
theorem dX11_heavier_22 : decode cX11_heavier 22 = .ok (.getfield 7, 3) := by decide +kernel
theorem dX11_heavier_25 : decode cX11_heavier 25 = .ok (.bipush 106, 2) := by decide +kernel
theorem dX11_heavier_27 : decode cX11_heavier 27 = .ok (.iload_n 1, 1) := by decide +kernel
theorem dX11_heavier_28 : decode cX11_heavier 28 = .ok (.iadd, 1) := by decide +kernel
theorem dX11_heavier_29 : decode cX11_heavier 29 = .ok (.iaload, 1) := by decide +kernel
theorem dX11_heavier_30 : decode cX11_heavier 30 = .ok (.if_icmp .gt 29, 3) := by decide +kernel
theorem dX11_heavier_33 : decode cX11_heavier 33 = .ok (.aload_n 0, 1) := by decide +kernel
theorem dX11_heavier_34 : decode cX11_heavier 34 = .ok (.getfield 7, 3) := by decide +kernel
theorem dX11_heavier_37 : decode cX11_heavier 37 = .ok (.bipush 106, 2) := by decide +kernel
theorem dX11_heavier_39 : decode cX11_heavier 39 = .ok (.iload_n 3, 1) := by decide +kernel
theorem dX11_heavier_40 : decode cX11_heavier 40 = .ok (.iadd, 1) := by decide +kernel
theorem dX11_heavier_41 : decode cX11_heavier 41 = .ok (.iaload, 1) := by decide +kernel
theorem dX11_heavier_42 : decode cX11_heavier 42 = .ok (.aload_n 0, 1) := by decide +kernel
theorem dX11_heavier_43 : decode cX11_heavier 43 = .ok (.getfield 7, 3) := by decide +kernel
theorem dX11_heavier_46 : decode cX11_heavier 46 = .ok (.bipush 106, 2) := by decide +kernel
theorem dX11_heavier_48 : decode cX11_heavier 48 = .ok (.iload_n 1, 1) := by decide +kernel
theorem dX11_heavier_49 : decode cX11_heavier 49 = .ok (.iadd, 1) := by decide +kernel
theorem dX11_heavier_50 : decode cX11_heavier 50 = .ok (.iaload, 1) := by decide +kernel
theorem dX11_heavier_51 : decode cX11_heavier 51 = .ok (.if_icmp .ne 12, 3) := by decide +kernel
theorem dX11_heavier_54 : decode cX11_heavier 54 = .ok (.iload_n 3, 1) := by decide +kernel
theorem dX11_heavier_55 : decode cX11_heavier 55 = .ok (.iload_n 1, 1) := by decide +kernel
theorem dX11_heavier_56 : decode cX11_heavier 56 = .ok (.if_icmp .ge 7, 3) := by decide +kernel
theorem dX11_heavier_59 : decode cX11_heavier 59 = .ok (.iconst 1, 1) := by decide +kernel
theorem dX11_heavier_60 : decode cX11_heavier 60 = .ok (.goto 4, 3) := by decide +kernel
theorem dX11_heavier_63 : decode cX11_heavier 63 = .ok (.iconst 0, 1) := by decide +kernel
theorem dX11_heavier_64 : decode cX11_heavier 64 = .ok (.iadd, 1) := by decide +kernel
theorem dX11_heavier_65 : decode cX11_heavier 65 = .ok (.istore_n 2, 1) := by decide +kernel
theorem dX11_heavier_66 : decode cX11_heavier 66 = .ok (.iinc 3 1, 3) := by decide +kernel
theorem dX11_heavier_69 : decode cX11_heavier 69 = .ok (.goto (-65), 3) := by decide +kernel
theorem dX11_heavier_72 : decode cX11_heavier 72 = .ok (.iload_n 2, 1) := by decide +kernel
theorem dX11_heavier_73 : decode cX11_heavier 73 = .ok (.ireturn, 1) := by decide +kernel
theorem dX11_hot_0 : decode cX11_hot 0 = .ok (.iload_n 2, 1) := by decide +kernel
theorem dX11_hot_1 : decode cX11_hot 1 = .ok (.i2l, 1) := by decide +kernel
theorem dX11_hot_2 : decode cX11_hot 2 = .ok (.lconst 0, 1) := by decide +kernel
theorem dX11_hot_3 : decode cX11_hot 3 = .ok (.lconst 1, 1) := by decide +kernel
theorem dX11_hot_4 : decode cX11_hot 4 = .ok (.invokestatic 45, 3) := by decide +kernel
theorem dX11_hot_7 : decode cX11_hot 7 = .ok (.ifCond .ne 5, 3) := by decide +kernel
theorem dX11_hot_10 : decode cX11_hot 10 = .ok (.iconst (-1), 1) := by decide +kernel
theorem dX11_hot_11 : decode cX11_hot 11 = .ok (.ireturn, 1) := by decide +kernel
theorem dX11_hot_12 : decode cX11_hot 12 = .ok (.iconst 0, 1) := by decide +kernel
theorem dX11_hot_13 : decode cX11_hot 13 = .ok (.istore_n 3, 1) := by decide +kernel
theorem dX11_hot_14 : decode cX11_hot 14 = .ok (.iload_n 3, 1) := by decide +kernel
theorem dX11_hot_15 : decode cX11_hot 15 = .ok (.sipush 1000, 3) := by decide +kernel
theorem dX11_hot_18 : decode cX11_hot 18 = .ok (.if_icmp .ge 48, 3) := by decide +kernel
theorem dX11_hot_21 : decode cX11_hot 21 = .ok (.aload_n 0, 1) := by decide +kernel
theorem dX11_hot_22 : decode cX11_hot 22 = .ok (.getfield 7, 3) := by decide +kernel
theorem dX11_hot_25 : decode cX11_hot 25 = .ok (.bipush 106, 2) := by decide +kernel
theorem dX11_hot_27 : decode cX11_hot 27 = .ok (.iload_n 3, 1) := by decide +kernel
theorem dX11_hot_28 : decode cX11_hot 28 = .ok (.iadd, 1) := by decide +kernel
theorem dX11_hot_29 : decode cX11_hot 29 = .ok (.iaload, 1) := by decide +kernel
theorem dX11_hot_30 : decode cX11_hot 30 = .ok (.ifCond .le 30, 3) := by decide +kernel
theorem dX11_hot_33 : decode cX11_hot 33 = .ok (.aload_n 0, 1) := by decide +kernel
theorem dX11_hot_34 : decode cX11_hot 34 = .ok (.iload_n 3, 1) := by decide +kernel
theorem dX11_hot_35 : decode cX11_hot 35 = .ok (.invokevirtual 389, 3) := by decide +kernel
theorem dX11_hot_38 : decode cX11_hot 38 = .ok (.iload_n 1, 1) := by decide +kernel
theorem dX11_hot_39 : decode cX11_hot 39 = .ok (.if_icmp .ne 21, 3) := by decide +kernel
theorem dX11_hot_42 : decode cX11_hot 42 = .ok (.iload_n 2, 1) := by decide +kernel
theorem dX11_hot_43 : decode cX11_hot 43 = .ok (.ifCond .ne 7, 3) := by decide +kernel
theorem dX11_hot_46 : decode cX11_hot 46 = .ok (.iload_n 3, 1) := by decide +kernel
theorem dX11_hot_47 : decode cX11_hot 47 = .ok (.goto 12, 3) := by decide +kernel
theorem dX11_hot_50 : decode cX11_hot 50 = .ok (.aload_n 0, 1) := by decide +kernel
theorem dX11_hot_51 : decode cX11_hot 51 = .ok (.getfield 7, 3) := by decide +kernel
theorem dX11_hot_54 : decode cX11_hot 54 = .ok (.bipush 106, 2) := by decide +kernel
theorem dX11_hot_56 : decode cX11_hot 56 = .ok (.iload_n 3, 1) := by decide +kernel
theorem dX11_hot_57 : decode cX11_hot 57 = .ok (.iadd, 1) := by decide +kernel
theorem dX11_hot_58 : decode cX11_hot 58 = .ok (.iaload, 1) := by decide +kernel
theorem dX11_hot_59 : decode cX11_hot 59 = .ok (.ireturn, 1) := by decide +kernel
theorem dX11_hot_60 : decode cX11_hot 60 = .ok (.iinc 3 1, 3) := by decide +kernel
theorem dX11_hot_63 : decode cX11_hot 63 = .ok (.goto (-49), 3) := by decide +kernel
theorem dX11_hot_66 : decode cX11_hot 66 = .ok (.iconst (-1), 1) := by decide +kernel
theorem dX11_hot_67 : decode cX11_hot 67 = .ok (.ireturn, 1) := by decide +kernel
theorem dX11_scan_0 : decode cX11_scan 0 = .ok (.iload_n 1, 1) := by decide +kernel
theorem dX11_scan_1 : decode cX11_scan 1 = .ok (.invokestatic 121, 3) := by decide +kernel
theorem dX11_scan_4 : decode cX11_scan 4 = .ok (.ifCond .eq 31, 3) := by decide +kernel
theorem dX11_scan_7 : decode cX11_scan 7 = .ok (.iload_n 2, 1) := by decide +kernel
theorem dX11_scan_8 : decode cX11_scan 8 = .ok (.invokestatic 54, 3) := by decide +kernel
theorem dX11_scan_11 : decode cX11_scan 11 = .ok (.ifCond .eq 24, 3) := by decide +kernel
theorem dX11_scan_14 : decode cX11_scan 14 = .ok (.iload_n 3, 1) := by decide +kernel
theorem dX11_scan_15 : decode cX11_scan 15 = .ok (.invokestatic 54, 3) := by decide +kernel
theorem dX11_scan_18 : decode cX11_scan 18 = .ok (.ifCond .eq 17, 3) := by decide +kernel
theorem dX11_scan_21 : decode cX11_scan 21 = .ok (.iload_n 3, 1) := by decide +kernel
theorem dX11_scan_22 : decode cX11_scan 22 = .ok (.iload_n 2, 1) := by decide +kernel
theorem dX11_scan_23 : decode cX11_scan 23 = .ok (.isub, 1) := by decide +kernel
theorem dX11_scan_24 : decode cX11_scan 24 = .ok (.i2l, 1) := by decide +kernel
theorem dX11_scan_25 : decode cX11_scan 25 = .ok (.lconst 0, 1) := by decide +kernel
theorem dX11_scan_26 : decode cX11_scan 26 = .ok (.ldc2_w 392, 3) := by decide +kernel
theorem dX11_scan_29 : decode cX11_scan 29 = .ok (.invokestatic 45, 3) := by decide +kernel
theorem dX11_scan_32 : decode cX11_scan 32 = .ok (.ifCond .ne 6, 3) := by decide +kernel
theorem dX11_scan_35 : decode cX11_scan 35 = .ok (.bipush (-10), 2) := by decide +kernel
theorem dX11_scan_37 : decode cX11_scan 37 = .ok (.ireturn, 1) := by decide +kernel
theorem dX11_scan_38 : decode cX11_scan 38 = .ok (.iconst 0, 1) := by decide +kernel
theorem dX11_scan_39 : decode cX11_scan 39 = .ok (.istore 4, 2) := by decide +kernel
theorem dX11_scan_41 : decode cX11_scan 41 = .ok (.iload_n 2, 1) := by decide +kernel
theorem dX11_scan_42 : decode cX11_scan 42 = .ok (.istore 5, 2) := by decide +kernel
theorem dX11_scan_44 : decode cX11_scan 44 = .ok (.iload 5, 2) := by decide +kernel
theorem dX11_scan_46 : decode cX11_scan 46 = .ok (.iload_n 3, 1) := by decide +kernel
theorem dX11_scan_47 : decode cX11_scan 47 = .ok (.if_icmp .gt 41, 3) := by decide +kernel
theorem dX11_scan_50 : decode cX11_scan 50 = .ok (.aload_n 0, 1) := by decide +kernel
theorem dX11_scan_51 : decode cX11_scan 51 = .ok (.iload_n 1, 1) := by decide +kernel
theorem dX11_scan_52 : decode cX11_scan 52 = .ok (.iload 5, 2) := by decide +kernel
theorem dX11_scan_54 : decode cX11_scan 54 = .ok (.invokevirtual 266, 3) := by decide +kernel
theorem dX11_scan_57 : decode cX11_scan 57 = .ok (.istore 6, 2) := by decide +kernel
theorem dX11_scan_59 : decode cX11_scan 59 = .ok (.iload 6, 2) := by decide +kernel
theorem dX11_scan_61 : decode cX11_scan 61 = .ok (.ifCond .ge 6, 3) := by decide +kernel
theorem dX11_scan_64 : decode cX11_scan 64 = .ok (.iload 6, 2) := by decide +kernel
theorem dX11_scan_66 : decode cX11_scan 66 = .ok (.ireturn, 1) := by decide +kernel
theorem dX11_scan_67 : decode cX11_scan 67 = .ok (.iload 4, 2) := by decide +kernel
theorem dX11_scan_69 : decode cX11_scan 69 = .ok (.iload 6, 2) := by decide +kernel
theorem dX11_scan_71 : decode cX11_scan 71 = .ok (.ifCond .le 7, 3) := by decide +kernel
theorem dX11_scan_74 : decode cX11_scan 74 = .ok (.iconst 1, 1) := by decide +kernel
theorem dX11_scan_75 : decode cX11_scan 75 = .ok (.goto 4, 3) := by decide +kernel
theorem dX11_scan_78 : decode cX11_scan 78 = .ok (.iconst 0, 1) := by decide +kernel
theorem dX11_scan_79 : decode cX11_scan 79 = .ok (.iadd, 1) := by decide +kernel
theorem dX11_scan_80 : decode cX11_scan 80 = .ok (.istore 4, 2) := by decide +kernel
theorem dX11_scan_82 : decode cX11_scan 82 = .ok (.iinc 5 1, 3) := by decide +kernel
theorem dX11_scan_85 : decode cX11_scan 85 = .ok (.goto (-41), 3) := by decide +kernel
theorem dX11_scan_88 : decode cX11_scan 88 = .ok (.iload 4, 2) := by decide +kernel
theorem dX11_scan_90 : decode cX11_scan 90 = .ok (.ireturn, 1) := by decide +kernel
theorem dX11_outerBut_0 : decode cX11_outerBut 0 = .ok (.iconst (-1), 1) := by decide +kernel
theorem dX11_outerBut_1 : decode cX11_outerBut 1 = .ok (.istore_n 3, 1) := by decide +kernel
theorem dX11_outerBut_2 : decode cX11_outerBut 2 = .ok (.iconst 0, 1) := by decide +kernel
theorem dX11_outerBut_3 : decode cX11_outerBut 3 = .ok (.istore 4, 2) := by decide +kernel
theorem dX11_outerBut_5 : decode cX11_outerBut 5 = .ok (.iload 4, 2) := by decide +kernel
theorem dX11_outerBut_7 : decode cX11_outerBut 7 = .ok (.bipush 6, 2) := by decide +kernel
theorem dX11_outerBut_9 : decode cX11_outerBut 9 = .ok (.if_icmp .ge 75, 3) := by decide +kernel
theorem dX11_outerBut_12 : decode cX11_outerBut 12 = .ok (.aload_n 0, 1) := by decide +kernel
theorem dX11_outerBut_13 : decode cX11_outerBut 13 = .ok (.getfield 7, 3) := by decide +kernel
theorem dX11_outerBut_16 : decode cX11_outerBut 16 = .ok (.iconst 4, 1) := by decide +kernel
theorem dX11_outerBut_17 : decode cX11_outerBut 17 = .ok (.iload 4, 2) := by decide +kernel
theorem dX11_outerBut_19 : decode cX11_outerBut 19 = .ok (.iadd, 1) := by decide +kernel
theorem dX11_outerBut_20 : decode cX11_outerBut 20 = .ok (.iaload, 1) := by decide +kernel
theorem dX11_outerBut_21 : decode cX11_outerBut 21 = .ok (.ifCond .eq 57, 3) := by decide +kernel
theorem dX11_outerBut_24 : decode cX11_outerBut 24 = .ok (.iload 4, 2) := by decide +kernel
theorem dX11_outerBut_26 : decode cX11_outerBut 26 = .ok (.iload_n 1, 1) := by decide +kernel
theorem dX11_outerBut_27 : decode cX11_outerBut 27 = .ok (.if_icmp .ne 6, 3) := by decide +kernel
theorem dX11_outerBut_30 : decode cX11_outerBut 30 = .ok (.goto 48, 3) := by decide +kernel
theorem dX11_outerBut_33 : decode cX11_outerBut 33 = .ok (.iload_n 3, 1) := by decide +kernel
theorem dX11_outerBut_34 : decode cX11_outerBut 34 = .ok (.iconst (-1), 1) := by decide +kernel
theorem dX11_outerBut_35 : decode cX11_outerBut 35 = .ok (.if_icmp .eq 40, 3) := by decide +kernel
theorem dX11_outerBut_38 : decode cX11_outerBut 38 = .ok (.iload_n 2, 1) := by decide +kernel
theorem dX11_outerBut_39 : decode cX11_outerBut 39 = .ok (.ifCond .eq 21, 3) := by decide +kernel
theorem dX11_outerBut_42 : decode cX11_outerBut 42 = .ok (.aload_n 0, 1) := by decide +kernel
theorem dX11_outerBut_43 : decode cX11_outerBut 43 = .ok (.iload 4, 2) := by decide +kernel
theorem dX11_outerBut_45 : decode cX11_outerBut 45 = .ok (.invokevirtual 337, 3) := by decide +kernel
theorem dX11_outerBut_48 : decode cX11_outerBut 48 = .ok (.aload_n 0, 1) := by decide +kernel
theorem dX11_outerBut_49 : decode cX11_outerBut 49 = .ok (.iload_n 3, 1) := by decide +kernel
theorem dX11_outerBut_50 : decode cX11_outerBut 50 = .ok (.invokevirtual 337, 3) := by decide +kernel
theorem dX11_outerBut_53 : decode cX11_outerBut 53 = .ok (.lcmp, 1) := by decide +kernel
theorem dX11_outerBut_54 : decode cX11_outerBut 54 = .ok (.ifCond .le 24, 3) := by decide +kernel
theorem dX11_outerBut_57 : decode cX11_outerBut 57 = .ok (.goto 18, 3) := by decide +kernel
theorem dX11_outerBut_60 : decode cX11_outerBut 60 = .ok (.aload_n 0, 1) := by decide +kernel
theorem dX11_outerBut_61 : decode cX11_outerBut 61 = .ok (.iload 4, 2) := by decide +kernel
theorem dX11_outerBut_63 : decode cX11_outerBut 63 = .ok (.invokevirtual 337, 3) := by decide +kernel
theorem dX11_outerBut_66 : decode cX11_outerBut 66 = .ok (.aload_n 0, 1) := by decide +kernel
theorem dX11_outerBut_67 : decode cX11_outerBut 67 = .ok (.iload_n 3, 1) := by decide +kernel
theorem dX11_outerBut_68 : decode cX11_outerBut 68 = .ok (.invokevirtual 337, 3) := by decide +kernel
theorem dX11_outerBut_71 : decode cX11_outerBut 71 = .ok (.lcmp, 1) := by decide +kernel
theorem dX11_outerBut_72 : decode cX11_outerBut 72 = .ok (.ifCond .ge 6, 3) := by decide +kernel
theorem dX11_outerBut_75 : decode cX11_outerBut 75 = .ok (.iload 4, 2) := by decide +kernel
theorem dX11_outerBut_77 : decode cX11_outerBut 77 = .ok (.istore_n 3, 1) := by decide +kernel
theorem dX11_outerBut_78 : decode cX11_outerBut 78 = .ok (.iinc 4 1, 3) := by decide +kernel
theorem dX11_outerBut_81 : decode cX11_outerBut 81 = .ok (.goto (-76), 3) := by decide +kernel
theorem dX11_outerBut_84 : decode cX11_outerBut 84 = .ok (.iload_n 3, 1) := by decide +kernel
theorem dX11_outerBut_85 : decode cX11_outerBut 85 = .ok (.ireturn, 1) := by decide +kernel
theorem dX11_heaviestOf_0 : decode cX11_heaviestOf 0 = .ok (.iconst (-1), 1) := by decide +kernel
theorem dX11_heaviestOf_1 : decode cX11_heaviestOf 1 = .ok (.istore_n 2, 1) := by decide +kernel
theorem dX11_heaviestOf_2 : decode cX11_heaviestOf 2 = .ok (.iconst 0, 1) := by decide +kernel
theorem dX11_heaviestOf_3 : decode cX11_heaviestOf 3 = .ok (.istore_n 3, 1) := by decide +kernel
theorem dX11_heaviestOf_4 : decode cX11_heaviestOf 4 = .ok (.iload_n 3, 1) := by decide +kernel
theorem dX11_heaviestOf_5 : decode cX11_heaviestOf 5 = .ok (.aload_n 0, 1) := by decide +kernel
theorem dX11_heaviestOf_6 : decode cX11_heaviestOf 6 = .ok (.getfield 7, 3) := by decide +kernel
theorem dX11_heaviestOf_9 : decode cX11_heaviestOf 9 = .ok (.iconst 1, 1) := by decide +kernel
theorem dX11_heaviestOf_10 : decode cX11_heaviestOf 10 = .ok (.iaload, 1) := by decide +kernel
theorem dX11_heaviestOf_11 : decode cX11_heaviestOf 11 = .ok (.if_icmp .ge 55, 3) := by decide +kernel
theorem dX11_heaviestOf_14 : decode cX11_heaviestOf 14 = .ok (.aload_n 0, 1) := by decide +kernel
theorem dX11_heaviestOf_15 : decode cX11_heaviestOf 15 = .ok (.getfield 7, 3) := by decide +kernel
theorem dX11_heaviestOf_18 : decode cX11_heaviestOf 18 = .ok (.bipush 42, 2) := by decide +kernel
theorem dX11_heaviestOf_20 : decode cX11_heaviestOf 20 = .ok (.iload_n 3, 1) := by decide +kernel
theorem dX11_heaviestOf_21 : decode cX11_heaviestOf 21 = .ok (.iadd, 1) := by decide +kernel
theorem dX11_heaviestOf_22 : decode cX11_heaviestOf 22 = .ok (.iaload, 1) := by decide +kernel
theorem dX11_heaviestOf_23 : decode cX11_heaviestOf 23 = .ok (.iload_n 1, 1) := by decide +kernel
theorem dX11_heaviestOf_24 : decode cX11_heaviestOf 24 = .ok (.if_icmp .ne 36, 3) := by decide +kernel
theorem dX11_heaviestOf_27 : decode cX11_heaviestOf 27 = .ok (.aload_n 0, 1) := by decide +kernel
theorem dX11_heaviestOf_28 : decode cX11_heaviestOf 28 = .ok (.iload_n 3, 1) := by decide +kernel
theorem dX11_heaviestOf_29 : decode cX11_heaviestOf 29 = .ok (.invokevirtual 79, 3) := by decide +kernel
theorem dX11_heaviestOf_32 : decode cX11_heaviestOf 32 = .ok (.iconst (-1), 1) := by decide +kernel
theorem dX11_heaviestOf_33 : decode cX11_heaviestOf 33 = .ok (.if_icmp .eq 6, 3) := by decide +kernel
theorem dX11_heaviestOf_36 : decode cX11_heaviestOf 36 = .ok (.goto 24, 3) := by decide +kernel
theorem dX11_heaviestOf_39 : decode cX11_heaviestOf 39 = .ok (.iload_n 2, 1) := by decide +kernel
theorem dX11_heaviestOf_40 : decode cX11_heaviestOf 40 = .ok (.iconst (-1), 1) := by decide +kernel
theorem dX11_heaviestOf_41 : decode cX11_heaviestOf 41 = .ok (.if_icmp .eq 17, 3) := by decide +kernel
theorem dX11_heaviestOf_44 : decode cX11_heaviestOf 44 = .ok (.aload_n 0, 1) := by decide +kernel
theorem dX11_heaviestOf_45 : decode cX11_heaviestOf 45 = .ok (.iload_n 3, 1) := by decide +kernel
theorem dX11_heaviestOf_46 : decode cX11_heaviestOf 46 = .ok (.invokevirtual 73, 3) := by decide +kernel
theorem dX11_heaviestOf_49 : decode cX11_heaviestOf 49 = .ok (.aload_n 0, 1) := by decide +kernel
theorem dX11_heaviestOf_50 : decode cX11_heaviestOf 50 = .ok (.iload_n 2, 1) := by decide +kernel
theorem dX11_heaviestOf_51 : decode cX11_heaviestOf 51 = .ok (.invokevirtual 73, 3) := by decide +kernel
theorem dX11_heaviestOf_54 : decode cX11_heaviestOf 54 = .ok (.lcmp, 1) := by decide +kernel
theorem dX11_heaviestOf_55 : decode cX11_heaviestOf 55 = .ok (.ifCond .le 5, 3) := by decide +kernel
theorem dX11_heaviestOf_58 : decode cX11_heaviestOf 58 = .ok (.iload_n 3, 1) := by decide +kernel
theorem dX11_heaviestOf_59 : decode cX11_heaviestOf 59 = .ok (.istore_n 2, 1) := by decide +kernel
theorem dX11_heaviestOf_60 : decode cX11_heaviestOf 60 = .ok (.iinc 3 1, 3) := by decide +kernel
theorem dX11_heaviestOf_63 : decode cX11_heaviestOf 63 = .ok (.goto (-59), 3) := by decide +kernel
theorem dX11_heaviestOf_66 : decode cX11_heaviestOf 66 = .ok (.iload_n 2, 1) := by decide +kernel
theorem dX11_heaviestOf_67 : decode cX11_heaviestOf 67 = .ok (.ireturn, 1) := by decide +kernel
theorem dX11_emptied_0 : decode cX11_emptied 0 = .ok (.iload_n 1, 1) := by decide +kernel
theorem dX11_emptied_1 : decode cX11_emptied 1 = .ok (.invokestatic 161, 3) := by decide +kernel
theorem dX11_emptied_4 : decode cX11_emptied 4 = .ok (.ifCond .eq 25, 3) := by decide +kernel
theorem dX11_emptied_7 : decode cX11_emptied 7 = .ok (.iload_n 2, 1) := by decide +kernel
theorem dX11_emptied_8 : decode cX11_emptied 8 = .ok (.i2l, 1) := by decide +kernel
theorem dX11_emptied_9 : decode cX11_emptied 9 = .ok (.lconst 0, 1) := by decide +kernel
theorem dX11_emptied_10 : decode cX11_emptied 10 = .ok (.ldc2_w 77, 3) := by decide +kernel
theorem dX11_emptied_13 : decode cX11_emptied 13 = .ok (.invokestatic 45, 3) := by decide +kernel
theorem dX11_emptied_16 : decode cX11_emptied 16 = .ok (.ifCond .eq 13, 3) := by decide +kernel
theorem dX11_emptied_19 : decode cX11_emptied 19 = .ok (.aload_n 0, 1) := by decide +kernel
theorem dX11_emptied_20 : decode cX11_emptied 20 = .ok (.iload_n 1, 1) := by decide +kernel
theorem dX11_emptied_21 : decode cX11_emptied 21 = .ok (.iconst 0, 1) := by decide +kernel
theorem dX11_emptied_22 : decode cX11_emptied 22 = .ok (.invokevirtual 394, 3) := by decide +kernel
theorem dX11_emptied_25 : decode cX11_emptied 25 = .ok (.iconst (-1), 1) := by decide +kernel
theorem dX11_emptied_26 : decode cX11_emptied 26 = .ok (.if_icmp .ne 7, 3) := by decide +kernel
theorem dX11_emptied_29 : decode cX11_emptied 29 = .ok (.ldc2_w 326, 3) := by decide +kernel
theorem dX11_emptied_32 : decode cX11_emptied 32 = .ok (.lreturn, 1) := by decide +kernel
theorem dX11_emptied_33 : decode cX11_emptied 33 = .ok (.aload_n 0, 1) := by decide +kernel
theorem dX11_emptied_34 : decode cX11_emptied 34 = .ok (.invokevirtual 311, 3) := by decide +kernel
theorem dX11_emptied_37 : decode cX11_emptied 37 = .ok (.iconst 0, 1) := by decide +kernel
theorem dX11_emptied_38 : decode cX11_emptied 38 = .ok (.istore_n 3, 1) := by decide +kernel
theorem dX11_emptied_39 : decode cX11_emptied 39 = .ok (.iconst (-1), 1) := by decide +kernel
theorem dX11_emptied_40 : decode cX11_emptied 40 = .ok (.istore 4, 2) := by decide +kernel
theorem dX11_emptied_42 : decode cX11_emptied 42 = .ok (.aload_n 0, 1) := by decide +kernel
theorem dX11_emptied_43 : decode cX11_emptied 43 = .ok (.iload_n 1, 1) := by decide +kernel
theorem dX11_emptied_44 : decode cX11_emptied 44 = .ok (.invokevirtual 398, 3) := by decide +kernel
theorem dX11_emptied_47 : decode cX11_emptied 47 = .ok (.istore 5, 2) := by decide +kernel
theorem dX11_emptied_49 : decode cX11_emptied 49 = .ok (.iload 5, 2) := by decide +kernel
theorem dX11_emptied_51 : decode cX11_emptied 51 = .ok (.iconst (-1), 1) := by decide +kernel
theorem dX11_emptied_52 : decode cX11_emptied 52 = .ok (.if_icmp .eq 49, 3) := by decide +kernel
theorem dX11_emptied_55 : decode cX11_emptied 55 = .ok (.aload_n 0, 1) := by decide +kernel
theorem dX11_emptied_56 : decode cX11_emptied 56 = .ok (.iload_n 1, 1) := by decide +kernel
theorem dX11_emptied_57 : decode cX11_emptied 57 = .ok (.iconst 0, 1) := by decide +kernel
theorem dX11_emptied_58 : decode cX11_emptied 58 = .ok (.invokevirtual 394, 3) := by decide +kernel
theorem dX11_emptied_61 : decode cX11_emptied 61 = .ok (.istore 6, 2) := by decide +kernel
theorem dX11_emptied_63 : decode cX11_emptied 63 = .ok (.aload_n 0, 1) := by decide +kernel
theorem dX11_emptied_64 : decode cX11_emptied 64 = .ok (.getfield 7, 3) := by decide +kernel
theorem dX11_emptied_67 : decode cX11_emptied 67 = .ok (.bipush 42, 2) := by decide +kernel
theorem dX11_emptied_69 : decode cX11_emptied 69 = .ok (.iload 5, 2) := by decide +kernel
theorem dX11_emptied_71 : decode cX11_emptied 71 = .ok (.iadd, 1) := by decide +kernel
theorem dX11_emptied_72 : decode cX11_emptied 72 = .ok (.iload 6, 2) := by decide +kernel
theorem dX11_emptied_74 : decode cX11_emptied 74 = .ok (.iastore, 1) := by decide +kernel
theorem dX11_emptied_75 : decode cX11_emptied 75 = .ok (.iload_n 3, 1) := by decide +kernel
theorem dX11_emptied_76 : decode cX11_emptied 76 = .ok (.ifCond .ne 8, 3) := by decide +kernel
theorem dX11_emptied_79 : decode cX11_emptied 79 = .ok (.iload 6, 2) := by decide +kernel
theorem dX11_emptied_81 : decode cX11_emptied 81 = .ok (.goto 5, 3) := by decide +kernel
theorem dX11_emptied_84 : decode cX11_emptied 84 = .ok (.iload 4, 2) := by decide +kernel
theorem dX11_emptied_86 : decode cX11_emptied 86 = .ok (.istore 4, 2) := by decide +kernel
theorem dX11_emptied_88 : decode cX11_emptied 88 = .ok (.iinc 3 1, 3) := by decide +kernel
theorem dX11_emptied_91 : decode cX11_emptied 91 = .ok (.aload_n 0, 1) := by decide +kernel
theorem dX11_emptied_92 : decode cX11_emptied 92 = .ok (.iload_n 1, 1) := by decide +kernel
theorem dX11_emptied_93 : decode cX11_emptied 93 = .ok (.invokevirtual 398, 3) := by decide +kernel
theorem dX11_emptied_96 : decode cX11_emptied 96 = .ok (.istore 5, 2) := by decide +kernel
theorem dX11_emptied_98 : decode cX11_emptied 98 = .ok (.goto (-49), 3) := by decide +kernel
theorem dX11_emptied_101 : decode cX11_emptied 101 = .ok (.aload_n 0, 1) := by decide +kernel
theorem dX11_emptied_102 : decode cX11_emptied 102 = .ok (.aload_n 0, 1) := by decide +kernel
theorem dX11_emptied_103 : decode cX11_emptied 103 = .ok (.iload_n 1, 1) := by decide +kernel
theorem dX11_emptied_104 : decode cX11_emptied 104 = .ok (.iconst 1, 1) := by decide +kernel
theorem dX11_emptied_105 : decode cX11_emptied 105 = .ok (.invokevirtual 394, 3) := by decide +kernel
theorem dX11_emptied_108 : decode cX11_emptied 108 = .ok (.invokevirtual 337, 3) := by decide +kernel
theorem dX11_emptied_111 : decode cX11_emptied 111 = .ok (.aload_n 0, 1) := by decide +kernel
theorem dX11_emptied_112 : decode cX11_emptied 112 = .ok (.aload_n 0, 1) := by decide +kernel
theorem dX11_emptied_113 : decode cX11_emptied 113 = .ok (.iload_n 1, 1) := by decide +kernel
theorem dX11_emptied_114 : decode cX11_emptied 114 = .ok (.iconst 0, 1) := by decide +kernel
theorem dX11_emptied_115 : decode cX11_emptied 115 = .ok (.invokevirtual 394, 3) := by decide +kernel
theorem dX11_emptied_118 : decode cX11_emptied 118 = .ok (.invokevirtual 337, 3) := by decide +kernel
theorem dX11_emptied_121 : decode cX11_emptied 121 = .ok (.lsub, 1) := by decide +kernel
theorem dX11_emptied_122 : decode cX11_emptied 122 = .ok (.lstore 5, 2) := by decide +kernel
theorem dX11_emptied_124 : decode cX11_emptied 124 = .ok (.aload_n 0, 1) := by decide +kernel
theorem dX11_emptied_125 : decode cX11_emptied 125 = .ok (.invokevirtual 386, 3) := by decide +kernel
theorem dX11_emptied_128 : decode cX11_emptied 128 = .ok (.iload_n 2, 1) := by decide +kernel
theorem dX11_emptied_129 : decode cX11_emptied 129 = .ok (.ifCond .ne 8, 3) := by decide +kernel
theorem dX11_emptied_132 : decode cX11_emptied 132 = .ok (.iload_n 3, 1) := by decide +kernel
theorem dX11_emptied_133 : decode cX11_emptied 133 = .ok (.i2l, 1) := by decide +kernel
theorem dX11_emptied_134 : decode cX11_emptied 134 = .ok (.goto 16, 3) := by decide +kernel
theorem dX11_emptied_137 : decode cX11_emptied 137 = .ok (.iload_n 2, 1) := by decide +kernel
theorem dX11_emptied_138 : decode cX11_emptied 138 = .ok (.iconst 1, 1) := by decide +kernel
theorem dX11_emptied_139 : decode cX11_emptied 139 = .ok (.if_icmp .ne 8, 3) := by decide +kernel
theorem dX11_emptied_142 : decode cX11_emptied 142 = .ok (.lload 5, 2) := by decide +kernel
theorem dX11_emptied_144 : decode cX11_emptied 144 = .ok (.goto 6, 3) := by decide +kernel
theorem dX11_emptied_147 : decode cX11_emptied 147 = .ok (.iload 4, 2) := by decide +kernel
theorem dX11_emptied_149 : decode cX11_emptied 149 = .ok (.i2l, 1) := by decide +kernel
theorem dX11_emptied_150 : decode cX11_emptied 150 = .ok (.lreturn, 1) := by decide +kernel
theorem dX11_cuts_0 : decode cX11_cuts 0 = .ok (.iload_n 1, 1) := by decide +kernel
theorem dX11_cuts_1 : decode cX11_cuts 1 = .ok (.i2l, 1) := by decide +kernel
theorem dX11_cuts_2 : decode cX11_cuts 2 = .ok (.lconst 0, 1) := by decide +kernel
theorem dX11_cuts_3 : decode cX11_cuts 3 = .ok (.ldc2_w 384, 3) := by decide +kernel
theorem dX11_cuts_6 : decode cX11_cuts 6 = .ok (.invokestatic 45, 3) := by decide +kernel
theorem dX11_cuts_9 : decode cX11_cuts 9 = .ok (.ifCond .ne 5, 3) := by decide +kernel
theorem dX11_cuts_12 : decode cX11_cuts 12 = .ok (.iconst (-1), 1) := by decide +kernel
theorem dX11_cuts_13 : decode cX11_cuts 13 = .ok (.ireturn, 1) := by decide +kernel
theorem dX11_cuts_14 : decode cX11_cuts 14 = .ok (.iconst 0, 1) := by decide +kernel
theorem dX11_cuts_15 : decode cX11_cuts 15 = .ok (.istore_n 2, 1) := by decide +kernel
theorem dX11_cuts_16 : decode cX11_cuts 16 = .ok (.iconst 0, 1) := by decide +kernel
theorem dX11_cuts_17 : decode cX11_cuts 17 = .ok (.istore_n 3, 1) := by decide +kernel
theorem dX11_cuts_18 : decode cX11_cuts 18 = .ok (.iload_n 3, 1) := by decide +kernel
theorem dX11_cuts_19 : decode cX11_cuts 19 = .ok (.aload_n 0, 1) := by decide +kernel
theorem dX11_cuts_20 : decode cX11_cuts 20 = .ok (.getfield 7, 3) := by decide +kernel
theorem dX11_cuts_23 : decode cX11_cuts 23 = .ok (.iconst 1, 1) := by decide +kernel
theorem dX11_cuts_24 : decode cX11_cuts 24 = .ok (.iaload, 1) := by decide +kernel
theorem dX11_cuts_25 : decode cX11_cuts 25 = .ok (.if_icmp .ge 133, 3) := by decide +kernel
theorem dX11_cuts_28 : decode cX11_cuts 28 = .ok (.aload_n 0, 1) := by decide +kernel
theorem dX11_cuts_29 : decode cX11_cuts 29 = .ok (.getfield 7, 3) := by decide +kernel
theorem dX11_cuts_32 : decode cX11_cuts 32 = .ok (.bipush 106, 2) := by decide +kernel
theorem dX11_cuts_34 : decode cX11_cuts 34 = .ok (.aload_n 0, 1) := by decide +kernel
theorem dX11_cuts_35 : decode cX11_cuts 35 = .ok (.getfield 7, 3) := by decide +kernel
theorem dX11_cuts_38 : decode cX11_cuts 38 = .ok (.bipush 10, 2) := by decide +kernel
theorem dX11_cuts_40 : decode cX11_cuts 40 = .ok (.iload_n 3, 1) := by decide +kernel
theorem dX11_cuts_41 : decode cX11_cuts 41 = .ok (.iadd, 1) := by decide +kernel
theorem dX11_cuts_42 : decode cX11_cuts 42 = .ok (.iaload, 1) := by decide +kernel
theorem dX11_cuts_43 : decode cX11_cuts 43 = .ok (.iadd, 1) := by decide +kernel
theorem dX11_cuts_44 : decode cX11_cuts 44 = .ok (.iaload, 1) := by decide +kernel
theorem dX11_cuts_45 : decode cX11_cuts 45 = .ok (.i2l, 1) := by decide +kernel
theorem dX11_cuts_46 : decode cX11_cuts 46 = .ok (.lstore 4, 2) := by decide +kernel
theorem dX11_cuts_48 : decode cX11_cuts 48 = .ok (.aload_n 0, 1) := by decide +kernel
theorem dX11_cuts_49 : decode cX11_cuts 49 = .ok (.getfield 7, 3) := by decide +kernel
theorem dX11_cuts_52 : decode cX11_cuts 52 = .ok (.bipush 10, 2) := by decide +kernel
theorem dX11_cuts_54 : decode cX11_cuts 54 = .ok (.iload_n 3, 1) := by decide +kernel
theorem dX11_cuts_55 : decode cX11_cuts 55 = .ok (.iadd, 1) := by decide +kernel
theorem dX11_cuts_56 : decode cX11_cuts 56 = .ok (.iaload, 1) := by decide +kernel
theorem dX11_cuts_57 : decode cX11_cuts 57 = .ok (.iconst 1, 1) := by decide +kernel
theorem dX11_cuts_58 : decode cX11_cuts 58 = .ok (.iadd, 1) := by decide +kernel
theorem dX11_cuts_59 : decode cX11_cuts 59 = .ok (.istore 6, 2) := by decide +kernel
theorem dX11_cuts_61 : decode cX11_cuts 61 = .ok (.iload 6, 2) := by decide +kernel
theorem dX11_cuts_63 : decode cX11_cuts 63 = .ok (.aload_n 0, 1) := by decide +kernel
theorem dX11_cuts_64 : decode cX11_cuts 64 = .ok (.iload_n 3, 1) := by decide +kernel
theorem dX11_cuts_65 : decode cX11_cuts 65 = .ok (.invokevirtual 70, 3) := by decide +kernel
theorem dX11_cuts_68 : decode cX11_cuts 68 = .ok (.if_icmp .ge 84, 3) := by decide +kernel
theorem dX11_cuts_71 : decode cX11_cuts 71 = .ok (.lload 4, 2) := by decide +kernel
theorem dX11_cuts_73 : decode cX11_cuts 73 = .ok (.aload_n 0, 1) := by decide +kernel
theorem dX11_cuts_74 : decode cX11_cuts 74 = .ok (.getfield 7, 3) := by decide +kernel
theorem dX11_cuts_77 : decode cX11_cuts 77 = .ok (.bipush 106, 2) := by decide +kernel
theorem dX11_cuts_79 : decode cX11_cuts 79 = .ok (.iload 6, 2) := by decide +kernel
theorem dX11_cuts_81 : decode cX11_cuts 81 = .ok (.iadd, 1) := by decide +kernel
theorem dX11_cuts_82 : decode cX11_cuts 82 = .ok (.iaload, 1) := by decide +kernel
theorem dX11_cuts_83 : decode cX11_cuts 83 = .ok (.i2l, 1) := by decide +kernel
theorem dX11_cuts_84 : decode cX11_cuts 84 = .ok (.ladd, 1) := by decide +kernel
theorem dX11_cuts_85 : decode cX11_cuts 85 = .ok (.iload_n 1, 1) := by decide +kernel
theorem dX11_cuts_86 : decode cX11_cuts 86 = .ok (.i2l, 1) := by decide +kernel
theorem dX11_cuts_87 : decode cX11_cuts 87 = .ok (.lcmp, 1) := by decide +kernel
theorem dX11_cuts_88 : decode cX11_cuts 88 = .ok (.ifCond .le 7, 3) := by decide +kernel
theorem dX11_cuts_91 : decode cX11_cuts 91 = .ok (.iconst 1, 1) := by decide +kernel
theorem dX11_cuts_92 : decode cX11_cuts 92 = .ok (.goto 4, 3) := by decide +kernel
theorem dX11_cuts_95 : decode cX11_cuts 95 = .ok (.iconst 0, 1) := by decide +kernel
theorem dX11_cuts_96 : decode cX11_cuts 96 = .ok (.istore 7, 2) := by decide +kernel
theorem dX11_cuts_98 : decode cX11_cuts 98 = .ok (.iload_n 2, 1) := by decide +kernel
theorem dX11_cuts_99 : decode cX11_cuts 99 = .ok (.iload 7, 2) := by decide +kernel
theorem dX11_cuts_101 : decode cX11_cuts 101 = .ok (.ifCond .eq 7, 3) := by decide +kernel
theorem dX11_cuts_104 : decode cX11_cuts 104 = .ok (.iconst 1, 1) := by decide +kernel
theorem dX11_cuts_105 : decode cX11_cuts 105 = .ok (.goto 4, 3) := by decide +kernel
theorem dX11_cuts_108 : decode cX11_cuts 108 = .ok (.iconst 0, 1) := by decide +kernel
theorem dX11_cuts_109 : decode cX11_cuts 109 = .ok (.iadd, 1) := by decide +kernel
theorem dX11_cuts_110 : decode cX11_cuts 110 = .ok (.istore_n 2, 1) := by decide +kernel
theorem dX11_cuts_111 : decode cX11_cuts 111 = .ok (.iload 7, 2) := by decide +kernel
theorem dX11_cuts_113 : decode cX11_cuts 113 = .ok (.ifCond .eq 17, 3) := by decide +kernel
theorem dX11_cuts_116 : decode cX11_cuts 116 = .ok (.aload_n 0, 1) := by decide +kernel
theorem dX11_cuts_117 : decode cX11_cuts 117 = .ok (.getfield 7, 3) := by decide +kernel
theorem dX11_cuts_120 : decode cX11_cuts 120 = .ok (.bipush 106, 2) := by decide +kernel
theorem dX11_cuts_122 : decode cX11_cuts 122 = .ok (.iload 6, 2) := by decide +kernel
theorem dX11_cuts_124 : decode cX11_cuts 124 = .ok (.iadd, 1) := by decide +kernel
theorem dX11_cuts_125 : decode cX11_cuts 125 = .ok (.iaload, 1) := by decide +kernel
theorem dX11_cuts_126 : decode cX11_cuts 126 = .ok (.i2l, 1) := by decide +kernel
theorem dX11_cuts_127 : decode cX11_cuts 127 = .ok (.goto 17, 3) := by decide +kernel
theorem dX11_cuts_130 : decode cX11_cuts 130 = .ok (.lload 4, 2) := by decide +kernel
theorem dX11_cuts_132 : decode cX11_cuts 132 = .ok (.aload_n 0, 1) := by decide +kernel
theorem dX11_cuts_133 : decode cX11_cuts 133 = .ok (.getfield 7, 3) := by decide +kernel
theorem dX11_cuts_136 : decode cX11_cuts 136 = .ok (.bipush 106, 2) := by decide +kernel
theorem dX11_cuts_138 : decode cX11_cuts 138 = .ok (.iload 6, 2) := by decide +kernel
theorem dX11_cuts_140 : decode cX11_cuts 140 = .ok (.iadd, 1) := by decide +kernel
theorem dX11_cuts_141 : decode cX11_cuts 141 = .ok (.iaload, 1) := by decide +kernel
theorem dX11_cuts_142 : decode cX11_cuts 142 = .ok (.i2l, 1) := by decide +kernel
theorem dX11_cuts_143 : decode cX11_cuts 143 = .ok (.ladd, 1) := by decide +kernel
theorem dX11_cuts_144 : decode cX11_cuts 144 = .ok (.lstore 4, 2) := by decide +kernel
theorem dX11_cuts_146 : decode cX11_cuts 146 = .ok (.iinc 6 1, 3) := by decide +kernel
theorem dX11_cuts_149 : decode cX11_cuts 149 = .ok (.goto (-88), 3) := by decide +kernel
theorem dX11_cuts_152 : decode cX11_cuts 152 = .ok (.iinc 3 1, 3) := by decide +kernel
theorem dX11_cuts_155 : decode cX11_cuts 155 = .ok (.goto (-137), 3) := by decide +kernel
theorem dX11_cuts_158 : decode cX11_cuts 158 = .ok (.iload_n 2, 1) := by decide +kernel
theorem dX11_cuts_159 : decode cX11_cuts 159 = .ok (.ireturn, 1) := by decide +kernel
theorem dX11_lasts_0 : decode cX11_lasts 0 = .ok (.aload_n 0, 1) := by decide +kernel
theorem dX11_lasts_1 : decode cX11_lasts 1 = .ok (.iload_n 1, 1) := by decide +kernel
theorem dX11_lasts_2 : decode cX11_lasts 2 = .ok (.invokevirtual 194, 3) := by decide +kernel
theorem dX11_lasts_5 : decode cX11_lasts 5 = .ok (.ifCond .eq 14, 3) := by decide +kernel
theorem dX11_lasts_8 : decode cX11_lasts 8 = .ok (.aload_n 0, 1) := by decide +kernel
theorem dX11_lasts_9 : decode cX11_lasts 9 = .ok (.iload_n 1, 1) := by decide +kernel
theorem dX11_lasts_10 : decode cX11_lasts 10 = .ok (.invokestatic 62, 3) := by decide +kernel
theorem dX11_lasts_13 : decode cX11_lasts 13 = .ok (.invokevirtual 205, 3) := by decide +kernel
theorem dX11_lasts_16 : decode cX11_lasts 16 = .ok (.ifCond .ne 5, 3) := by decide +kernel
theorem dX11_lasts_19 : decode cX11_lasts 19 = .ok (.iconst (-1), 1) := by decide +kernel
theorem dX11_lasts_20 : decode cX11_lasts 20 = .ok (.ireturn, 1) := by decide +kernel
theorem dX11_lasts_21 : decode cX11_lasts 21 = .ok (.aload_n 0, 1) := by decide +kernel
theorem dX11_lasts_22 : decode cX11_lasts 22 = .ok (.invokevirtual 311, 3) := by decide +kernel
theorem dX11_lasts_25 : decode cX11_lasts 25 = .ok (.iconst 0, 1) := by decide +kernel
theorem dX11_lasts_26 : decode cX11_lasts 26 = .ok (.istore_n 2, 1) := by decide +kernel
theorem dX11_lasts_27 : decode cX11_lasts 27 = .ok (.aload_n 0, 1) := by decide +kernel
theorem dX11_lasts_28 : decode cX11_lasts 28 = .ok (.iload_n 1, 1) := by decide +kernel
theorem dX11_lasts_29 : decode cX11_lasts 29 = .ok (.invokevirtual 67, 3) := by decide +kernel
theorem dX11_lasts_32 : decode cX11_lasts 32 = .ok (.ifCond .eq 17, 3) := by decide +kernel
theorem dX11_lasts_35 : decode cX11_lasts 35 = .ok (.aload_n 0, 1) := by decide +kernel
theorem dX11_lasts_36 : decode cX11_lasts 36 = .ok (.iload_n 1, 1) := by decide +kernel
theorem dX11_lasts_37 : decode cX11_lasts 37 = .ok (.invokestatic 62, 3) := by decide +kernel
theorem dX11_lasts_40 : decode cX11_lasts 40 = .ok (.invokevirtual 186, 3) := by decide +kernel
theorem dX11_lasts_43 : decode cX11_lasts 43 = .ok (.iinc 2 1, 3) := by decide +kernel
theorem dX11_lasts_46 : decode cX11_lasts 46 = .ok (.goto (-19), 3) := by decide +kernel
theorem dX11_lasts_49 : decode cX11_lasts 49 = .ok (.aload_n 0, 1) := by decide +kernel
theorem dX11_lasts_50 : decode cX11_lasts 50 = .ok (.invokevirtual 386, 3) := by decide +kernel
theorem dX11_lasts_53 : decode cX11_lasts 53 = .ok (.iload_n 2, 1) := by decide +kernel
theorem dX11_lasts_54 : decode cX11_lasts 54 = .ok (.ireturn, 1) := by decide +kernel
theorem dX11_count_0 : decode cX11_count 0 = .ok (.iload_n 1, 1) := by decide +kernel
theorem dX11_count_1 : decode cX11_count 1 = .ok (.i2l, 1) := by decide +kernel
theorem dX11_count_2 : decode cX11_count 2 = .ok (.lconst 0, 1) := by decide +kernel
theorem dX11_count_3 : decode cX11_count 3 = .ok (.ldc2_w 401, 3) := by decide +kernel
theorem dX11_count_6 : decode cX11_count 6 = .ok (.invokestatic 45, 3) := by decide +kernel
theorem dX11_count_9 : decode cX11_count 9 = .ok (.ifCond .eq 16, 3) := by decide +kernel
theorem dX11_count_12 : decode cX11_count 12 = .ok (.aload_n 0, 1) := by decide +kernel
theorem dX11_count_13 : decode cX11_count 13 = .ok (.getfield 7, 3) := by decide +kernel
theorem dX11_count_16 : decode cX11_count 16 = .ok (.sipush 8558, 3) := by decide +kernel
theorem dX11_count_19 : decode cX11_count 19 = .ok (.iload_n 1, 1) := by decide +kernel
theorem dX11_count_20 : decode cX11_count 20 = .ok (.iadd, 1) := by decide +kernel
theorem dX11_count_21 : decode cX11_count 21 = .ok (.iaload, 1) := by decide +kernel
theorem dX11_count_22 : decode cX11_count 22 = .ok (.goto 4, 3) := by decide +kernel
theorem dX11_count_25 : decode cX11_count 25 = .ok (.iconst (-1), 1) := by decide +kernel
theorem dX11_count_26 : decode cX11_count 26 = .ok (.ireturn, 1) := by decide +kernel
theorem dX11_image_0 : decode cX11_image 0 = .ok (.iload_n 1, 1) := by decide +kernel
theorem dX11_image_1 : decode cX11_image 1 = .ok (.ifCond .ne 12, 3) := by decide +kernel
theorem dX11_image_4 : decode cX11_image 4 = .ok (.aload_n 0, 1) := by decide +kernel
theorem dX11_image_5 : decode cX11_image 5 = .ok (.getfield 403, 3) := by decide +kernel
theorem dX11_image_8 : decode cX11_image 8 = .ok (.ifCond .ne 5, 3) := by decide +kernel
theorem dX11_image_11 : decode cX11_image 11 = .ok (.iconst 0, 1) := by decide +kernel
theorem dX11_image_12 : decode cX11_image 12 = .ok (.ireturn, 1) := by decide +kernel
theorem dX11_image_13 : decode cX11_image 13 = .ok (.iconst 0, 1) := by decide +kernel
theorem dX11_image_14 : decode cX11_image 14 = .ok (.istore_n 2, 1) := by decide +kernel
theorem dX11_image_15 : decode cX11_image 15 = .ok (.iload_n 2, 1) := by decide +kernel
theorem dX11_image_16 : decode cX11_image 16 = .ok (.sipush 8597, 3) := by decide +kernel
theorem dX11_image_19 : decode cX11_image 19 = .ok (.if_icmp .ge 40, 3) := by decide +kernel
theorem dX11_image_22 : decode cX11_image 22 = .ok (.iload_n 1, 1) := by decide +kernel
theorem dX11_image_23 : decode cX11_image 23 = .ok (.ifCond .eq 18, 3) := by decide +kernel
theorem dX11_image_26 : decode cX11_image 26 = .ok (.aload_n 0, 1) := by decide +kernel
theorem dX11_image_27 : decode cX11_image 27 = .ok (.getfield 16, 3) := by decide +kernel
theorem dX11_image_30 : decode cX11_image 30 = .ok (.iload_n 2, 1) := by decide +kernel
theorem dX11_image_31 : decode cX11_image 31 = .ok (.aload_n 0, 1) := by decide +kernel
theorem dX11_image_32 : decode cX11_image 32 = .ok (.getfield 7, 3) := by decide +kernel
theorem dX11_image_35 : decode cX11_image 35 = .ok (.iload_n 2, 1) := by decide +kernel
theorem dX11_image_36 : decode cX11_image 36 = .ok (.iaload, 1) := by decide +kernel
theorem dX11_image_37 : decode cX11_image 37 = .ok (.iastore, 1) := by decide +kernel
theorem dX11_image_38 : decode cX11_image 38 = .ok (.goto 15, 3) := by decide +kernel
theorem dX11_image_41 : decode cX11_image 41 = .ok (.aload_n 0, 1) := by decide +kernel
theorem dX11_image_42 : decode cX11_image 42 = .ok (.getfield 7, 3) := by decide +kernel
theorem dX11_image_45 : decode cX11_image 45 = .ok (.iload_n 2, 1) := by decide +kernel
theorem dX11_image_46 : decode cX11_image 46 = .ok (.aload_n 0, 1) := by decide +kernel
theorem dX11_image_47 : decode cX11_image 47 = .ok (.getfield 16, 3) := by decide +kernel
theorem dX11_image_50 : decode cX11_image 50 = .ok (.iload_n 2, 1) := by decide +kernel
theorem dX11_image_51 : decode cX11_image 51 = .ok (.iaload, 1) := by decide +kernel
theorem dX11_image_52 : decode cX11_image 52 = .ok (.iastore, 1) := by decide +kernel
theorem dX11_image_53 : decode cX11_image 53 = .ok (.iinc 2 1, 3) := by decide +kernel
theorem dX11_image_56 : decode cX11_image 56 = .ok (.goto (-41), 3) := by decide +kernel
theorem dX11_image_59 : decode cX11_image 59 = .ok (.iconst 0, 1) := by decide +kernel
theorem dX11_image_60 : decode cX11_image 60 = .ok (.istore_n 2, 1) := by decide +kernel
theorem dX11_image_61 : decode cX11_image 61 = .ok (.iload_n 2, 1) := by decide +kernel
theorem dX11_image_62 : decode cX11_image 62 = .ok (.sipush 12000, 3) := by decide +kernel
theorem dX11_image_65 : decode cX11_image 65 = .ok (.if_icmp .ge 40, 3) := by decide +kernel
theorem dX11_image_68 : decode cX11_image 68 = .ok (.iload_n 1, 1) := by decide +kernel
theorem dX11_image_69 : decode cX11_image 69 = .ok (.ifCond .eq 18, 3) := by decide +kernel
theorem dX11_image_72 : decode cX11_image 72 = .ok (.aload_n 0, 1) := by decide +kernel
theorem dX11_image_73 : decode cX11_image 73 = .ok (.getfield 26, 3) := by decide +kernel
theorem dX11_image_76 : decode cX11_image 76 = .ok (.iload_n 2, 1) := by decide +kernel
theorem dX11_image_77 : decode cX11_image 77 = .ok (.aload_n 0, 1) := by decide +kernel
theorem dX11_image_78 : decode cX11_image 78 = .ok (.getfield 23, 3) := by decide +kernel
theorem dX11_image_81 : decode cX11_image 81 = .ok (.iload_n 2, 1) := by decide +kernel
theorem dX11_image_82 : decode cX11_image 82 = .ok (.iaload, 1) := by decide +kernel
theorem dX11_image_83 : decode cX11_image 83 = .ok (.iastore, 1) := by decide +kernel
theorem dX11_image_84 : decode cX11_image 84 = .ok (.goto 15, 3) := by decide +kernel
theorem dX11_image_87 : decode cX11_image 87 = .ok (.aload_n 0, 1) := by decide +kernel
theorem dX11_image_88 : decode cX11_image 88 = .ok (.getfield 23, 3) := by decide +kernel
theorem dX11_image_91 : decode cX11_image 91 = .ok (.iload_n 2, 1) := by decide +kernel
theorem dX11_image_92 : decode cX11_image 92 = .ok (.aload_n 0, 1) := by decide +kernel
theorem dX11_image_93 : decode cX11_image 93 = .ok (.getfield 26, 3) := by decide +kernel
theorem dX11_image_96 : decode cX11_image 96 = .ok (.iload_n 2, 1) := by decide +kernel
theorem dX11_image_97 : decode cX11_image 97 = .ok (.iaload, 1) := by decide +kernel
theorem dX11_image_98 : decode cX11_image 98 = .ok (.iastore, 1) := by decide +kernel
theorem dX11_image_99 : decode cX11_image 99 = .ok (.iinc 2 1, 3) := by decide +kernel
theorem dX11_image_102 : decode cX11_image 102 = .ok (.goto (-41), 3) := by decide +kernel
theorem dX11_image_105 : decode cX11_image 105 = .ok (.iload_n 1, 1) := by decide +kernel
theorem dX11_image_106 : decode cX11_image 106 = .ok (.ifCond .ne 8, 3) := by decide +kernel
theorem dX11_image_109 : decode cX11_image 109 = .ok (.aload_n 0, 1) := by decide +kernel
theorem dX11_image_110 : decode cX11_image 110 = .ok (.iconst 0, 1) := by decide +kernel
theorem dX11_image_111 : decode cX11_image 111 = .ok (.putfield 51, 3) := by decide +kernel
theorem dX11_image_114 : decode cX11_image 114 = .ok (.aload_n 0, 1) := by decide +kernel
theorem dX11_image_115 : decode cX11_image 115 = .ok (.iconst 1, 1) := by decide +kernel
theorem dX11_image_116 : decode cX11_image 116 = .ok (.putfield 403, 3) := by decide +kernel
theorem dX11_image_119 : decode cX11_image 119 = .ok (.iconst 1, 1) := by decide +kernel
theorem dX11_image_120 : decode cX11_image 120 = .ok (.ireturn, 1) := by decide +kernel
theorem dX11_upOnes_0 : decode cX11_upOnes 0 = .ok (.iconst 0, 1) := by decide +kernel
theorem dX11_upOnes_1 : decode cX11_upOnes 1 = .ok (.istore_n 1, 1) := by decide +kernel
theorem dX11_upOnes_2 : decode cX11_upOnes 2 = .ok (.iconst 0, 1) := by decide +kernel
theorem dX11_upOnes_3 : decode cX11_upOnes 3 = .ok (.istore_n 2, 1) := by decide +kernel
theorem dX11_upOnes_4 : decode cX11_upOnes 4 = .ok (.iload_n 2, 1) := by decide +kernel
theorem dX11_upOnes_5 : decode cX11_upOnes 5 = .ok (.bipush 6, 2) := by decide +kernel
theorem dX11_upOnes_7 : decode cX11_upOnes 7 = .ok (.if_icmp .ge 22, 3) := by decide +kernel
theorem dX11_upOnes_10 : decode cX11_upOnes 10 = .ok (.iload_n 1, 1) := by decide +kernel
theorem dX11_upOnes_11 : decode cX11_upOnes 11 = .ok (.aload_n 0, 1) := by decide +kernel
theorem dX11_upOnes_12 : decode cX11_upOnes 12 = .ok (.getfield 7, 3) := by decide +kernel
theorem dX11_upOnes_15 : decode cX11_upOnes 15 = .ok (.iconst 4, 1) := by decide +kernel
theorem dX11_upOnes_16 : decode cX11_upOnes 16 = .ok (.iload_n 2, 1) := by decide +kernel
theorem dX11_upOnes_17 : decode cX11_upOnes 17 = .ok (.iadd, 1) := by decide +kernel
theorem dX11_upOnes_18 : decode cX11_upOnes 18 = .ok (.iaload, 1) := by decide +kernel
theorem dX11_upOnes_19 : decode cX11_upOnes 19 = .ok (.iload_n 2, 1) := by decide +kernel
theorem dX11_upOnes_20 : decode cX11_upOnes 20 = .ok (.ishl, 1) := by decide +kernel
theorem dX11_upOnes_21 : decode cX11_upOnes 21 = .ok (.ior, 1) := by decide +kernel
theorem dX11_upOnes_22 : decode cX11_upOnes 22 = .ok (.istore_n 1, 1) := by decide +kernel
theorem dX11_upOnes_23 : decode cX11_upOnes 23 = .ok (.iinc 2 1, 3) := by decide +kernel
theorem dX11_upOnes_26 : decode cX11_upOnes 26 = .ok (.goto (-22), 3) := by decide +kernel
theorem dX11_upOnes_29 : decode cX11_upOnes 29 = .ok (.iload_n 1, 1) := by decide +kernel
theorem dX11_upOnes_30 : decode cX11_upOnes 30 = .ok (.ireturn, 1) := by decide +kernel
theorem dX11_brokenOnes_0 : decode cX11_brokenOnes 0 = .ok (.iconst 0, 1) := by decide +kernel
theorem dX11_brokenOnes_1 : decode cX11_brokenOnes 1 = .ok (.istore_n 1, 1) := by decide +kernel
theorem dX11_brokenOnes_2 : decode cX11_brokenOnes 2 = .ok (.iconst 0, 1) := by decide +kernel
theorem dX11_brokenOnes_3 : decode cX11_brokenOnes 3 = .ok (.istore_n 2, 1) := by decide +kernel
theorem dX11_brokenOnes_4 : decode cX11_brokenOnes 4 = .ok (.iload_n 2, 1) := by decide +kernel
theorem dX11_brokenOnes_5 : decode cX11_brokenOnes 5 = .ok (.aload_n 0, 1) := by decide +kernel
theorem dX11_brokenOnes_6 : decode cX11_brokenOnes 6 = .ok (.getfield 7, 3) := by decide +kernel
theorem dX11_brokenOnes_9 : decode cX11_brokenOnes 9 = .ok (.iconst 3, 1) := by decide +kernel
theorem dX11_brokenOnes_10 : decode cX11_brokenOnes 10 = .ok (.iaload, 1) := by decide +kernel
theorem dX11_brokenOnes_11 : decode cX11_brokenOnes 11 = .ok (.if_icmp .ge 24, 3) := by decide +kernel
theorem dX11_brokenOnes_14 : decode cX11_brokenOnes 14 = .ok (.iload_n 1, 1) := by decide +kernel
theorem dX11_brokenOnes_15 : decode cX11_brokenOnes 15 = .ok (.aload_n 0, 1) := by decide +kernel
theorem dX11_brokenOnes_16 : decode cX11_brokenOnes 16 = .ok (.getfield 7, 3) := by decide +kernel
theorem dX11_brokenOnes_19 : decode cX11_brokenOnes 19 = .ok (.iload_n 2, 1) := by decide +kernel
theorem dX11_brokenOnes_20 : decode cX11_brokenOnes 20 = .ok (.invokestatic 62, 3) := by decide +kernel
theorem dX11_brokenOnes_23 : decode cX11_brokenOnes 23 = .ok (.bipush 7, 2) := by decide +kernel
theorem dX11_brokenOnes_25 : decode cX11_brokenOnes 25 = .ok (.iadd, 1) := by decide +kernel
theorem dX11_brokenOnes_26 : decode cX11_brokenOnes 26 = .ok (.iaload, 1) := by decide +kernel
theorem dX11_brokenOnes_27 : decode cX11_brokenOnes 27 = .ok (.iadd, 1) := by decide +kernel
theorem dX11_brokenOnes_28 : decode cX11_brokenOnes 28 = .ok (.istore_n 1, 1) := by decide +kernel
theorem dX11_brokenOnes_29 : decode cX11_brokenOnes 29 = .ok (.iinc 2 1, 3) := by decide +kernel
theorem dX11_brokenOnes_32 : decode cX11_brokenOnes 32 = .ok (.goto (-28), 3) := by decide +kernel
theorem dX11_brokenOnes_35 : decode cX11_brokenOnes 35 = .ok (.iload_n 1, 1) := by decide +kernel
theorem dX11_brokenOnes_36 : decode cX11_brokenOnes 36 = .ok (.ireturn, 1) := by decide +kernel
theorem dX11_frozenOnes_0 : decode cX11_frozenOnes 0 = .ok (.iconst 0, 1) := by decide +kernel
theorem dX11_frozenOnes_1 : decode cX11_frozenOnes 1 = .ok (.istore_n 1, 1) := by decide +kernel
theorem dX11_frozenOnes_2 : decode cX11_frozenOnes 2 = .ok (.iconst 0, 1) := by decide +kernel
theorem dX11_frozenOnes_3 : decode cX11_frozenOnes 3 = .ok (.istore_n 2, 1) := by decide +kernel
theorem dX11_frozenOnes_4 : decode cX11_frozenOnes 4 = .ok (.iload_n 2, 1) := by decide +kernel
theorem dX11_frozenOnes_5 : decode cX11_frozenOnes 5 = .ok (.aload_n 0, 1) := by decide +kernel
theorem dX11_frozenOnes_6 : decode cX11_frozenOnes 6 = .ok (.getfield 7, 3) := by decide +kernel
theorem dX11_frozenOnes_9 : decode cX11_frozenOnes 9 = .ok (.iconst 1, 1) := by decide +kernel
theorem dX11_frozenOnes_10 : decode cX11_frozenOnes 10 = .ok (.iaload, 1) := by decide +kernel
theorem dX11_frozenOnes_11 : decode cX11_frozenOnes 11 = .ok (.if_icmp .ge 25, 3) := by decide +kernel
theorem dX11_frozenOnes_14 : decode cX11_frozenOnes 14 = .ok (.iload_n 1, 1) := by decide +kernel
theorem dX11_frozenOnes_15 : decode cX11_frozenOnes 15 = .ok (.aload_n 0, 1) := by decide +kernel
theorem dX11_frozenOnes_16 : decode cX11_frozenOnes 16 = .ok (.iload_n 2, 1) := by decide +kernel
theorem dX11_frozenOnes_17 : decode cX11_frozenOnes 17 = .ok (.invokevirtual 320, 3) := by decide +kernel
theorem dX11_frozenOnes_20 : decode cX11_frozenOnes 20 = .ok (.ifCond .eq 7, 3) := by decide +kernel
theorem dX11_frozenOnes_23 : decode cX11_frozenOnes 23 = .ok (.iconst 1, 1) := by decide +kernel
theorem dX11_frozenOnes_24 : decode cX11_frozenOnes 24 = .ok (.goto 4, 3) := by decide +kernel
theorem dX11_frozenOnes_27 : decode cX11_frozenOnes 27 = .ok (.iconst 0, 1) := by decide +kernel
theorem dX11_frozenOnes_28 : decode cX11_frozenOnes 28 = .ok (.iadd, 1) := by decide +kernel
theorem dX11_frozenOnes_29 : decode cX11_frozenOnes 29 = .ok (.istore_n 1, 1) := by decide +kernel
theorem dX11_frozenOnes_30 : decode cX11_frozenOnes 30 = .ok (.iinc 2 1, 3) := by decide +kernel
theorem dX11_frozenOnes_33 : decode cX11_frozenOnes 33 = .ok (.goto (-29), 3) := by decide +kernel
theorem dX11_frozenOnes_36 : decode cX11_frozenOnes 36 = .ok (.iload_n 1, 1) := by decide +kernel
theorem dX11_frozenOnes_37 : decode cX11_frozenOnes 37 = .ok (.ireturn, 1) := by decide +kernel
theorem dX11_look_0 : decode cX11_look 0 = .ok (.iload_n 1, 1) := by decide +kernel
theorem dX11_look_1 : decode cX11_look 1 = .ok (.tableswitch 122 0 10 #[59, 66, 73, 78, 85, 90, 95, 102, 107, 112, 117], 59) := by decide +kernel
theorem dX11_look_60 : decode cX11_look 60 = .ok (.aload_n 0, 1) := by decide +kernel
theorem dX11_look_61 : decode cX11_look 61 = .ok (.getfield 7, 3) := by decide +kernel
theorem dX11_look_64 : decode cX11_look 64 = .ok (.iconst 0, 1) := by decide +kernel
theorem dX11_look_65 : decode cX11_look 65 = .ok (.iaload, 1) := by decide +kernel
theorem dX11_look_66 : decode cX11_look 66 = .ok (.ireturn, 1) := by decide +kernel
theorem dX11_look_67 : decode cX11_look 67 = .ok (.aload_n 0, 1) := by decide +kernel
theorem dX11_look_68 : decode cX11_look 68 = .ok (.getfield 7, 3) := by decide +kernel
theorem dX11_look_71 : decode cX11_look 71 = .ok (.iconst 1, 1) := by decide +kernel
theorem dX11_look_72 : decode cX11_look 72 = .ok (.iaload, 1) := by decide +kernel
theorem dX11_look_73 : decode cX11_look 73 = .ok (.ireturn, 1) := by decide +kernel
theorem dX11_look_74 : decode cX11_look 74 = .ok (.aload_n 0, 1) := by decide +kernel
theorem dX11_look_75 : decode cX11_look 75 = .ok (.invokevirtual 406, 3) := by decide +kernel
theorem dX11_look_78 : decode cX11_look 78 = .ok (.ireturn, 1) := by decide +kernel
theorem dX11_look_79 : decode cX11_look 79 = .ok (.aload_n 0, 1) := by decide +kernel
theorem dX11_look_80 : decode cX11_look 80 = .ok (.getfield 7, 3) := by decide +kernel
theorem dX11_look_83 : decode cX11_look 83 = .ok (.iconst 3, 1) := by decide +kernel
theorem dX11_look_84 : decode cX11_look 84 = .ok (.iaload, 1) := by decide +kernel
theorem dX11_look_85 : decode cX11_look 85 = .ok (.ireturn, 1) := by decide +kernel
theorem dX11_look_86 : decode cX11_look 86 = .ok (.aload_n 0, 1) := by decide +kernel
theorem dX11_look_87 : decode cX11_look 87 = .ok (.invokevirtual 164, 3) := by decide +kernel
theorem dX11_look_90 : decode cX11_look 90 = .ok (.ireturn, 1) := by decide +kernel
theorem dX11_look_91 : decode cX11_look 91 = .ok (.aload_n 0, 1) := by decide +kernel
theorem dX11_look_92 : decode cX11_look 92 = .ok (.invokevirtual 409, 3) := by decide +kernel
theorem dX11_look_95 : decode cX11_look 95 = .ok (.ireturn, 1) := by decide +kernel
theorem dX11_look_96 : decode cX11_look 96 = .ok (.aload_n 0, 1) := by decide +kernel
theorem dX11_look_97 : decode cX11_look 97 = .ok (.getfield 7, 3) := by decide +kernel
theorem dX11_look_100 : decode cX11_look 100 = .ok (.iconst 2, 1) := by decide +kernel
theorem dX11_look_101 : decode cX11_look 101 = .ok (.iaload, 1) := by decide +kernel
theorem dX11_look_102 : decode cX11_look 102 = .ok (.ireturn, 1) := by decide +kernel
theorem dX11_look_103 : decode cX11_look 103 = .ok (.aload_n 0, 1) := by decide +kernel
theorem dX11_look_104 : decode cX11_look 104 = .ok (.getfield 51, 3) := by decide +kernel
theorem dX11_look_107 : decode cX11_look 107 = .ok (.ireturn, 1) := by decide +kernel
theorem dX11_look_108 : decode cX11_look 108 = .ok (.aload_n 0, 1) := by decide +kernel
theorem dX11_look_109 : decode cX11_look 109 = .ok (.getfield 217, 3) := by decide +kernel
theorem dX11_look_112 : decode cX11_look 112 = .ok (.ireturn, 1) := by decide +kernel
theorem dX11_look_113 : decode cX11_look 113 = .ok (.aload_n 0, 1) := by decide +kernel
theorem dX11_look_114 : decode cX11_look 114 = .ok (.invokevirtual 351, 3) := by decide +kernel
theorem dX11_look_117 : decode cX11_look 117 = .ok (.ireturn, 1) := by decide +kernel
theorem dX11_look_118 : decode cX11_look 118 = .ok (.aload_n 0, 1) := by decide +kernel
theorem dX11_look_119 : decode cX11_look 119 = .ok (.invokevirtual 412, 3) := by decide +kernel
theorem dX11_look_122 : decode cX11_look 122 = .ok (.ireturn, 1) := by decide +kernel
theorem dX11_look_123 : decode cX11_look 123 = .ok (.iconst (-1), 1) := by decide +kernel
theorem dX11_look_124 : decode cX11_look 124 = .ok (.ireturn, 1) := by decide +kernel
