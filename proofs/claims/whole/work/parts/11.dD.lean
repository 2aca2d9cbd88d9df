theorem dX10_init_0 : decode cX10_init 0 = .ok (.aload_n 0, 1) := by decide +kernel
theorem dX10_init_1 : decode cX10_init 1 = .ok (.invokespecial 3, 3) := by decide +kernel
theorem dX10_init_4 : decode cX10_init 4 = .ok (.new 9, 3) := by decide +kernel
theorem dX10_init_7 : decode cX10_init 7 = .ok (.dup, 1) := by decide +kernel
theorem dX10_init_8 : decode cX10_init 8 = .ok (.invokespecial 11, 3) := by decide +kernel
theorem dX10_init_11 : decode cX10_init 11 = .ok (.astore_n 1, 1) := by decide +kernel
theorem dX10_init_12 : decode cX10_init 12 = .ok (.new 12, 3) := by decide +kernel
theorem dX10_init_15 : decode cX10_init 15 = .ok (.dup, 1) := by decide +kernel
theorem dX10_init_16 : decode cX10_init 16 = .ok (.invokespecial 14, 3) := by decide +kernel
theorem dX10_init_19 : decode cX10_init 19 = .ok (.astore_n 2, 1) := by decide +kernel
theorem dX10_init_20 : decode cX10_init 20 = .ok (.new 15, 3) := by decide +kernel
theorem dX10_init_23 : decode cX10_init 23 = .ok (.dup, 1) := by decide +kernel
theorem dX10_init_24 : decode cX10_init 24 = .ok (.invokespecial 17, 3) := by decide +kernel
theorem dX10_init_27 : decode cX10_init 27 = .ok (.astore_n 3, 1) := by decide +kernel
theorem dX10_init_28 : decode cX10_init 28 = .ok (.aload_n 0, 1) := by decide +kernel
theorem dX10_init_29 : decode cX10_init 29 = .ok (.aload_n 1, 1) := by decide +kernel
theorem dX10_init_30 : decode cX10_init 30 = .ok (.putfield 18, 3) := by decide +kernel
theorem dX10_init_33 : decode cX10_init 33 = .ok (.aload_n 0, 1) := by decide +kernel
theorem dX10_init_34 : decode cX10_init 34 = .ok (.aload_n 2, 1) := by decide +kernel
theorem dX10_init_35 : decode cX10_init 35 = .ok (.putfield 22, 3) := by decide +kernel
theorem dX10_init_38 : decode cX10_init 38 = .ok (.aload_n 0, 1) := by decide +kernel
theorem dX10_init_39 : decode cX10_init 39 = .ok (.aload_n 3, 1) := by decide +kernel
theorem dX10_init_40 : decode cX10_init 40 = .ok (.putfield 26, 3) := by decide +kernel
theorem dX10_init_43 : decode cX10_init 43 = .ok (.aload_n 0, 1) := by decide +kernel
theorem dX10_init_44 : decode cX10_init 44 = .ok (.new 30, 3) := by decide +kernel
theorem dX10_init_47 : decode cX10_init 47 = .ok (.dup, 1) := by decide +kernel
theorem dX10_init_48 : decode cX10_init 48 = .ok (.aload_n 1, 1) := by decide +kernel
theorem dX10_init_49 : decode cX10_init 49 = .ok (.aload_n 2, 1) := by decide +kernel
theorem dX10_init_50 : decode cX10_init 50 = .ok (.invokespecial 32, 3) := by decide +kernel
theorem dX10_init_53 : decode cX10_init 53 = .ok (.putfield 35, 3) := by decide +kernel
theorem dX10_init_56 : decode cX10_init 56 = .ok (.aload_n 0, 1) := by decide +kernel
theorem dX10_init_57 : decode cX10_init 57 = .ok (.new 39, 3) := by decide +kernel
theorem dX10_init_60 : decode cX10_init 60 = .ok (.dup, 1) := by decide +kernel
theorem dX10_init_61 : decode cX10_init 61 = .ok (.aload_n 1, 1) := by decide +kernel
theorem dX10_init_62 : decode cX10_init 62 = .ok (.aload_n 2, 1) := by decide +kernel
theorem dX10_init_63 : decode cX10_init 63 = .ok (.aload_n 3, 1) := by decide +kernel
theorem dX10_init_64 : decode cX10_init 64 = .ok (.invokespecial 41, 3) := by decide +kernel
theorem dX10_init_67 : decode cX10_init 67 = .ok (.putfield 44, 3) := by decide +kernel
theorem dX10_init_70 : decode cX10_init 70 = .ok (.aload_n 0, 1) := by decide +kernel
theorem dX10_init_71 : decode cX10_init 71 = .ok (.new 48, 3) := by decide +kernel
theorem dX10_init_74 : decode cX10_init 74 = .ok (.dup, 1) := by decide +kernel
theorem dX10_init_75 : decode cX10_init 75 = .ok (.aload_n 1, 1) := by decide +kernel
theorem dX10_init_76 : decode cX10_init 76 = .ok (.aload_n 2, 1) := by decide +kernel
theorem dX10_init_77 : decode cX10_init 77 = .ok (.invokespecial 50, 3) := by decide +kernel
theorem dX10_init_80 : decode cX10_init 80 = .ok (.putfield 51, 3) := by decide +kernel
theorem dX10_init_83 : decode cX10_init 83 = .ok (.aload_n 0, 1) := by decide +kernel
theorem dX10_init_84 : decode cX10_init 84 = .ok (.new 55, 3) := by decide +kernel
theorem dX10_init_87 : decode cX10_init 87 = .ok (.dup, 1) := by decide +kernel
theorem dX10_init_88 : decode cX10_init 88 = .ok (.invokespecial 57, 3) := by decide +kernel
theorem dX10_init_91 : decode cX10_init 91 = .ok (.putfield 58, 3) := by decide +kernel
theorem dX10_init_94 : decode cX10_init 94 = .ok (.aload_n 0, 1) := by decide +kernel
theorem dX10_init_95 : decode cX10_init 95 = .ok (.new 62, 3) := by decide +kernel
theorem dX10_init_98 : decode cX10_init 98 = .ok (.dup, 1) := by decide +kernel
theorem dX10_init_99 : decode cX10_init 99 = .ok (.invokespecial 64, 3) := by decide +kernel
theorem dX10_init_102 : decode cX10_init 102 = .ok (.putfield 65, 3) := by decide +kernel
theorem dX10_init_105 : decode cX10_init 105 = .ok (.aload_n 0, 1) := by decide +kernel
theorem dX10_init_106 : decode cX10_init 106 = .ok (.aconst_null, 1) := by decide +kernel
theorem dX10_init_107 : decode cX10_init 107 = .ok (.putfield 69, 3) := by decide +kernel
theorem dX10_init_110 : decode cX10_init 110 = .ok (.aload_n 0, 1) := by decide +kernel
theorem dX10_init_111 : decode cX10_init 111 = .ok (.aconst_null, 1) := by decide +kernel
theorem dX10_init_112 : decode cX10_init 112 = .ok (.putfield 72, 3) := by decide +kernel
theorem dX10_init_115 : decode cX10_init 115 = .ok (.aload_n 0, 1) := by decide +kernel
theorem dX10_init_116 : decode cX10_init 116 = .ok (.iconst (-1), 1) := by decide +kernel
theorem dX10_init_117 : decode cX10_init 117 = .ok (.putfield 75, 3) := by decide +kernel
theorem dX10_init_120 : decode cX10_init 120 = .ok (.return_, 1) := by decide +kernel
theorem dX10_fetch_0 : decode cX10_fetch 0 = .ok (.aload_n 0, 1) := by decide +kernel
theorem dX10_fetch_1 : decode cX10_fetch 1 = .ok (.getfield 35, 3) := by decide +kernel
theorem dX10_fetch_4 : decode cX10_fetch 4 = .ok (.iload_n 1, 1) := by decide +kernel
theorem dX10_fetch_5 : decode cX10_fetch 5 = .ok (.invokevirtual 79, 3) := by decide +kernel
theorem dX10_fetch_8 : decode cX10_fetch 8 = .ok (.istore_n 2, 1) := by decide +kernel
theorem dX10_fetch_9 : decode cX10_fetch 9 = .ok (.iload_n 2, 1) := by decide +kernel
theorem dX10_fetch_10 : decode cX10_fetch 10 = .ok (.iconst (-1), 1) := by decide +kernel
theorem dX10_fetch_11 : decode cX10_fetch 11 = .ok (.if_icmp .eq 10, 3) := by decide +kernel
theorem dX10_fetch_14 : decode cX10_fetch 14 = .ok (.aload_n 0, 1) := by decide +kernel
theorem dX10_fetch_15 : decode cX10_fetch 15 = .ok (.getfield 58, 3) := by decide +kernel
theorem dX10_fetch_18 : decode cX10_fetch 18 = .ok (.invokevirtual 83, 3) := by decide +kernel
theorem dX10_fetch_21 : decode cX10_fetch 21 = .ok (.iload_n 2, 1) := by decide +kernel
theorem dX10_fetch_22 : decode cX10_fetch 22 = .ok (.ireturn, 1) := by decide +kernel
theorem dX10_read_0 : decode cX10_read 0 = .ok (.aload_n 0, 1) := by decide +kernel
theorem dX10_read_1 : decode cX10_read 1 = .ok (.getfield 35, 3) := by decide +kernel
theorem dX10_read_4 : decode cX10_read 4 = .ok (.iload_n 1, 1) := by decide +kernel
theorem dX10_read_5 : decode cX10_read 5 = .ok (.iload_n 2, 1) := by decide +kernel
theorem dX10_read_6 : decode cX10_read 6 = .ok (.invokevirtual 86, 3) := by decide +kernel
theorem dX10_read_9 : decode cX10_read 9 = .ok (.istore_n 3, 1) := by decide +kernel
theorem dX10_read_10 : decode cX10_read 10 = .ok (.iload_n 3, 1) := by decide +kernel
theorem dX10_read_11 : decode cX10_read 11 = .ok (.ifCond .lt 10, 3) := by decide +kernel
theorem dX10_read_14 : decode cX10_read 14 = .ok (.aload_n 0, 1) := by decide +kernel
theorem dX10_read_15 : decode cX10_read 15 = .ok (.getfield 58, 3) := by decide +kernel
theorem dX10_read_18 : decode cX10_read 18 = .ok (.invokevirtual 83, 3) := by decide +kernel
theorem dX10_read_21 : decode cX10_read 21 = .ok (.iload_n 3, 1) := by decide +kernel
theorem dX10_read_22 : decode cX10_read 22 = .ok (.ireturn, 1) := by decide +kernel
theorem dX10_write_0 : decode cX10_write 0 = .ok (.aload_n 0, 1) := by decide +kernel
theorem dX10_write_1 : decode cX10_write 1 = .ok (.getfield 35, 3) := by decide +kernel
theorem dX10_write_4 : decode cX10_write 4 = .ok (.iload_n 1, 1) := by decide +kernel
theorem dX10_write_5 : decode cX10_write 5 = .ok (.iload_n 2, 1) := by decide +kernel
theorem dX10_write_6 : decode cX10_write 6 = .ok (.iload_n 3, 1) := by decide +kernel
theorem dX10_write_7 : decode cX10_write 7 = .ok (.invokevirtual 90, 3) := by decide +kernel
theorem dX10_write_10 : decode cX10_write 10 = .ok (.istore 4, 2) := by decide +kernel
theorem dX10_write_12 : decode cX10_write 12 = .ok (.iload 4, 2) := by decide +kernel
theorem dX10_write_14 : decode cX10_write 14 = .ok (.ifCond .ne 10, 3) := by decide +kernel
theorem dX10_write_17 : decode cX10_write 17 = .ok (.aload_n 0, 1) := by decide +kernel
theorem dX10_write_18 : decode cX10_write 18 = .ok (.getfield 58, 3) := by decide +kernel
theorem dX10_write_21 : decode cX10_write 21 = .ok (.invokevirtual 83, 3) := by decide +kernel
theorem dX10_write_24 : decode cX10_write 24 = .ok (.iload 4, 2) := by decide +kernel
theorem dX10_write_26 : decode cX10_write 26 = .ok (.ireturn, 1) := by decide +kernel
theorem dX10_insist_0 : decode cX10_insist 0 = .ok (.aload_n 0, 1) := by decide +kernel
theorem dX10_insist_1 : decode cX10_insist 1 = .ok (.getfield 35, 3) := by decide +kernel
theorem dX10_insist_4 : decode cX10_insist 4 = .ok (.iload_n 1, 1) := by decide +kernel
theorem dX10_insist_5 : decode cX10_insist 5 = .ok (.iload_n 2, 1) := by decide +kernel
theorem dX10_insist_6 : decode cX10_insist 6 = .ok (.iload_n 3, 1) := by decide +kernel
theorem dX10_insist_7 : decode cX10_insist 7 = .ok (.invokevirtual 90, 3) := by decide +kernel
theorem dX10_insist_10 : decode cX10_insist 10 = .ok (.istore 4, 2) := by decide +kernel
theorem dX10_insist_12 : decode cX10_insist 12 = .ok (.iload 4, 2) := by decide +kernel
theorem dX10_insist_14 : decode cX10_insist 14 = .ok (.iconst 3, 1) := by decide +kernel
theorem dX10_insist_15 : decode cX10_insist 15 = .ok (.if_icmp .ne 31, 3) := by decide +kernel
theorem dX10_insist_18 : decode cX10_insist 18 = .ok (.aload_n 0, 1) := by decide +kernel
theorem dX10_insist_19 : decode cX10_insist 19 = .ok (.getfield 35, 3) := by decide +kernel
theorem dX10_insist_22 : decode cX10_insist 22 = .ok (.iload_n 1, 1) := by decide +kernel
theorem dX10_insist_23 : decode cX10_insist 23 = .ok (.invokevirtual 79, 3) := by decide +kernel
theorem dX10_insist_26 : decode cX10_insist 26 = .ok (.pop, 1) := by decide +kernel
theorem dX10_insist_27 : decode cX10_insist 27 = .ok (.aload_n 0, 1) := by decide +kernel
theorem dX10_insist_28 : decode cX10_insist 28 = .ok (.getfield 58, 3) := by decide +kernel
theorem dX10_insist_31 : decode cX10_insist 31 = .ok (.invokevirtual 83, 3) := by decide +kernel
theorem dX10_insist_34 : decode cX10_insist 34 = .ok (.aload_n 0, 1) := by decide +kernel
theorem dX10_insist_35 : decode cX10_insist 35 = .ok (.getfield 35, 3) := by decide +kernel
theorem dX10_insist_38 : decode cX10_insist 38 = .ok (.iload_n 1, 1) := by decide +kernel
theorem dX10_insist_39 : decode cX10_insist 39 = .ok (.iload_n 2, 1) := by decide +kernel
theorem dX10_insist_40 : decode cX10_insist 40 = .ok (.iload_n 3, 1) := by decide +kernel
theorem dX10_insist_41 : decode cX10_insist 41 = .ok (.invokevirtual 90, 3) := by decide +kernel
theorem dX10_insist_44 : decode cX10_insist 44 = .ok (.istore 4, 2) := by decide +kernel
theorem dX10_insist_46 : decode cX10_insist 46 = .ok (.iload 4, 2) := by decide +kernel
theorem dX10_insist_48 : decode cX10_insist 48 = .ok (.ifCond .ne 10, 3) := by decide +kernel
theorem dX10_insist_51 : decode cX10_insist 51 = .ok (.aload_n 0, 1) := by decide +kernel
theorem dX10_insist_52 : decode cX10_insist 52 = .ok (.getfield 58, 3) := by decide +kernel
theorem dX10_insist_55 : decode cX10_insist 55 = .ok (.invokevirtual 83, 3) := by decide +kernel
theorem dX10_insist_58 : decode cX10_insist 58 = .ok (.iload 4, 2) := by decide +kernel
theorem dX10_insist_60 : decode cX10_insist 60 = .ok (.ireturn, 1) := by decide +kernel
theorem dX10_scan_0 : decode cX10_scan 0 = .ok (.iload_n 2, 1) := by decide +kernel
theorem dX10_scan_1 : decode cX10_scan 1 = .ok (.invokestatic 94, 3) := by decide +kernel
theorem dX10_scan_4 : decode cX10_scan 4 = .ok (.ifCond .eq 23, 3) := by decide +kernel
theorem dX10_scan_7 : decode cX10_scan 7 = .ok (.iload_n 3, 1) := by decide +kernel
theorem dX10_scan_8 : decode cX10_scan 8 = .ok (.invokestatic 94, 3) := by decide +kernel
theorem dX10_scan_11 : decode cX10_scan 11 = .ok (.ifCond .eq 16, 3) := by decide +kernel
theorem dX10_scan_14 : decode cX10_scan 14 = .ok (.iload_n 2, 1) := by decide +kernel
theorem dX10_scan_15 : decode cX10_scan 15 = .ok (.iload_n 3, 1) := by decide +kernel
theorem dX10_scan_16 : decode cX10_scan 16 = .ok (.if_icmp .gt 11, 3) := by decide +kernel
theorem dX10_scan_19 : decode cX10_scan 19 = .ok (.iload_n 3, 1) := by decide +kernel
theorem dX10_scan_20 : decode cX10_scan 20 = .ok (.iload_n 2, 1) := by decide +kernel
theorem dX10_scan_21 : decode cX10_scan 21 = .ok (.isub, 1) := by decide +kernel
theorem dX10_scan_22 : decode cX10_scan 22 = .ok (.bipush 60, 2) := by decide +kernel
theorem dX10_scan_24 : decode cX10_scan 24 = .ok (.if_icmp .le 6, 3) := by decide +kernel
theorem dX10_scan_27 : decode cX10_scan 27 = .ok (.bipush (-10), 2) := by decide +kernel
theorem dX10_scan_29 : decode cX10_scan 29 = .ok (.ireturn, 1) := by decide +kernel
theorem dX10_scan_30 : decode cX10_scan 30 = .ok (.iconst 0, 1) := by decide +kernel
theorem dX10_scan_31 : decode cX10_scan 31 = .ok (.istore 4, 2) := by decide +kernel
theorem dX10_scan_33 : decode cX10_scan 33 = .ok (.iload_n 2, 1) := by decide +kernel
theorem dX10_scan_34 : decode cX10_scan 34 = .ok (.istore 5, 2) := by decide +kernel
theorem dX10_scan_36 : decode cX10_scan 36 = .ok (.iload 5, 2) := by decide +kernel
theorem dX10_scan_38 : decode cX10_scan 38 = .ok (.iload_n 3, 1) := by decide +kernel
theorem dX10_scan_39 : decode cX10_scan 39 = .ok (.if_icmp .gt 44, 3) := by decide +kernel
theorem dX10_scan_42 : decode cX10_scan 42 = .ok (.aload_n 0, 1) := by decide +kernel
theorem dX10_scan_43 : decode cX10_scan 43 = .ok (.getfield 35, 3) := by decide +kernel
theorem dX10_scan_46 : decode cX10_scan 46 = .ok (.iload_n 1, 1) := by decide +kernel
theorem dX10_scan_47 : decode cX10_scan 47 = .ok (.iload 5, 2) := by decide +kernel
theorem dX10_scan_49 : decode cX10_scan 49 = .ok (.invokevirtual 86, 3) := by decide +kernel
theorem dX10_scan_52 : decode cX10_scan 52 = .ok (.istore 6, 2) := by decide +kernel
theorem dX10_scan_54 : decode cX10_scan 54 = .ok (.iload 6, 2) := by decide +kernel
theorem dX10_scan_56 : decode cX10_scan 56 = .ok (.ifCond .ge 6, 3) := by decide +kernel
theorem dX10_scan_59 : decode cX10_scan 59 = .ok (.iload 6, 2) := by decide +kernel
theorem dX10_scan_61 : decode cX10_scan 61 = .ok (.ireturn, 1) := by decide +kernel
theorem dX10_scan_62 : decode cX10_scan 62 = .ok (.aload_n 0, 1) := by decide +kernel
theorem dX10_scan_63 : decode cX10_scan 63 = .ok (.getfield 58, 3) := by decide +kernel
theorem dX10_scan_66 : decode cX10_scan 66 = .ok (.invokevirtual 83, 3) := by decide +kernel
theorem dX10_scan_69 : decode cX10_scan 69 = .ok (.iload 6, 2) := by decide +kernel
theorem dX10_scan_71 : decode cX10_scan 71 = .ok (.ifCond .le 6, 3) := by decide +kernel
theorem dX10_scan_74 : decode cX10_scan 74 = .ok (.iinc 4 1, 3) := by decide +kernel
theorem dX10_scan_77 : decode cX10_scan 77 = .ok (.iinc 5 1, 3) := by decide +kernel
theorem dX10_scan_80 : decode cX10_scan 80 = .ok (.goto (-44), 3) := by decide +kernel
theorem dX10_scan_83 : decode cX10_scan 83 = .ok (.iload 4, 2) := by decide +kernel
theorem dX10_scan_85 : decode cX10_scan 85 = .ok (.ireturn, 1) := by decide +kernel
theorem dX10_clientOf_0 : decode cX10_clientOf 0 = .ok (.iload_n 1, 1) := by decide +kernel
theorem dX10_clientOf_1 : decode cX10_clientOf 1 = .ok (.invokestatic 98, 3) := by decide +kernel
theorem dX10_clientOf_4 : decode cX10_clientOf 4 = .ok (.ifCond .ne 5, 3) := by decide +kernel
theorem dX10_clientOf_7 : decode cX10_clientOf 7 = .ok (.iconst (-1), 1) := by decide +kernel
theorem dX10_clientOf_8 : decode cX10_clientOf 8 = .ok (.ireturn, 1) := by decide +kernel
theorem dX10_clientOf_9 : decode cX10_clientOf 9 = .ok (.iload_n 2, 1) := by decide +kernel
theorem dX10_clientOf_10 : decode cX10_clientOf 10 = .ok (.tableswitch 100 0 5 #[38, 51, 60, 70, 80, 90], 38) := by decide +kernel
theorem dX10_clientOf_48 : decode cX10_clientOf 48 = .ok (.aload_n 0, 1) := by decide +kernel
theorem dX10_clientOf_49 : decode cX10_clientOf 49 = .ok (.getfield 18, 3) := by decide +kernel
theorem dX10_clientOf_52 : decode cX10_clientOf 52 = .ok (.getfield 101, 3) := by decide +kernel
theorem dX10_clientOf_55 : decode cX10_clientOf 55 = .ok (.iload_n 1, 1) := by decide +kernel
theorem dX10_clientOf_56 : decode cX10_clientOf 56 = .ok (.aaload, 1) := by decide +kernel
theorem dX10_clientOf_57 : decode cX10_clientOf 57 = .ok (.getfield 105, 3) := by decide +kernel
theorem dX10_clientOf_60 : decode cX10_clientOf 60 = .ok (.ireturn, 1) := by decide +kernel
theorem dX10_clientOf_61 : decode cX10_clientOf 61 = .ok (.aload_n 0, 1) := by decide +kernel
theorem dX10_clientOf_62 : decode cX10_clientOf 62 = .ok (.getfield 35, 3) := by decide +kernel
theorem dX10_clientOf_65 : decode cX10_clientOf 65 = .ok (.iload_n 1, 1) := by decide +kernel
theorem dX10_clientOf_66 : decode cX10_clientOf 66 = .ok (.invokevirtual 110, 3) := by decide +kernel
theorem dX10_clientOf_69 : decode cX10_clientOf 69 = .ok (.ireturn, 1) := by decide +kernel
theorem dX10_clientOf_70 : decode cX10_clientOf 70 = .ok (.aload_n 0, 1) := by decide +kernel
theorem dX10_clientOf_71 : decode cX10_clientOf 71 = .ok (.getfield 22, 3) := by decide +kernel
theorem dX10_clientOf_74 : decode cX10_clientOf 74 = .ok (.getfield 113, 3) := by decide +kernel
theorem dX10_clientOf_77 : decode cX10_clientOf 77 = .ok (.iload_n 1, 1) := by decide +kernel
theorem dX10_clientOf_78 : decode cX10_clientOf 78 = .ok (.iaload, 1) := by decide +kernel
theorem dX10_clientOf_79 : decode cX10_clientOf 79 = .ok (.ireturn, 1) := by decide +kernel
theorem dX10_clientOf_80 : decode cX10_clientOf 80 = .ok (.aload_n 0, 1) := by decide +kernel
theorem dX10_clientOf_81 : decode cX10_clientOf 81 = .ok (.getfield 22, 3) := by decide +kernel
theorem dX10_clientOf_84 : decode cX10_clientOf 84 = .ok (.getfield 117, 3) := by decide +kernel
theorem dX10_clientOf_87 : decode cX10_clientOf 87 = .ok (.iload_n 1, 1) := by decide +kernel
theorem dX10_clientOf_88 : decode cX10_clientOf 88 = .ok (.iaload, 1) := by decide +kernel
theorem dX10_clientOf_89 : decode cX10_clientOf 89 = .ok (.ireturn, 1) := by decide +kernel
theorem dX10_clientOf_90 : decode cX10_clientOf 90 = .ok (.aload_n 0, 1) := by decide +kernel
theorem dX10_clientOf_91 : decode cX10_clientOf 91 = .ok (.getfield 22, 3) := by decide +kernel
theorem dX10_clientOf_94 : decode cX10_clientOf 94 = .ok (.getfield 120, 3) := by decide +kernel
theorem dX10_clientOf_97 : decode cX10_clientOf 97 = .ok (.iload_n 1, 1) := by decide +kernel
theorem dX10_clientOf_98 : decode cX10_clientOf 98 = .ok (.iaload, 1) := by decide +kernel
theorem dX10_clientOf_99 : decode cX10_clientOf 99 = .ok (.ireturn, 1) := by decide +kernel
theorem dX10_clientOf_100 : decode cX10_clientOf 100 = .ok (.aload_n 0, 1) := by decide +kernel
theorem dX10_clientOf_101 : decode cX10_clientOf 101 = .ok (.getfield 22, 3) := by decide +kernel
theorem dX10_clientOf_104 : decode cX10_clientOf 104 = .ok (.getfield 123, 3) := by decide +kernel
theorem dX10_clientOf_107 : decode cX10_clientOf 107 = .ok (.iload_n 1, 1) := by decide +kernel
theorem dX10_clientOf_108 : decode cX10_clientOf 108 = .ok (.iaload, 1) := by decide +kernel
theorem dX10_clientOf_109 : decode cX10_clientOf 109 = .ok (.ireturn, 1) := by decide +kernel
theorem dX10_clientOf_110 : decode cX10_clientOf 110 = .ok (.iconst (-1), 1) := by decide +kernel
theorem dX10_clientOf_111 : decode cX10_clientOf 111 = .ok (.ireturn, 1) := by decide +kernel
theorem dX10_split_0 : decode cX10_split 0 = .ok (.aload_n 0, 1) := by decide +kernel
theorem dX10_split_1 : decode cX10_split 1 = .ok (.getfield 58, 3) := by decide +kernel
theorem dX10_split_4 : decode cX10_split 4 = .ok (.aload_n 0, 1) := by decide +kernel
theorem dX10_split_5 : decode cX10_split 5 = .ok (.getfield 18, 3) := by decide +kernel
theorem dX10_split_8 : decode cX10_split 8 = .ok (.invokevirtual 126, 3) := by decide +kernel
theorem dX10_split_11 : decode cX10_split 11 = .ok (.aload_n 0, 1) := by decide +kernel
theorem dX10_split_12 : decode cX10_split 12 = .ok (.aload_n 0, 1) := by decide +kernel
theorem dX10_split_13 : decode cX10_split 13 = .ok (.getfield 44, 3) := by decide +kernel
theorem dX10_split_16 : decode cX10_split 16 = .ok (.iload_n 1, 1) := by decide +kernel
theorem dX10_split_17 : decode cX10_split 17 = .ok (.iload_n 2, 1) := by decide +kernel
theorem dX10_split_18 : decode cX10_split 18 = .ok (.invokevirtual 130, 3) := by decide +kernel
theorem dX10_split_21 : decode cX10_split 21 = .ok (.invokevirtual 133, 3) := by decide +kernel
theorem dX10_split_24 : decode cX10_split 24 = .ok (.ireturn, 1) := by decide +kernel
theorem dX10_middle_0 : decode cX10_middle 0 = .ok (.aload_n 0, 1) := by decide +kernel
theorem dX10_middle_1 : decode cX10_middle 1 = .ok (.getfield 58, 3) := by decide +kernel
theorem dX10_middle_4 : decode cX10_middle 4 = .ok (.aload_n 0, 1) := by decide +kernel
theorem dX10_middle_5 : decode cX10_middle 5 = .ok (.getfield 18, 3) := by decide +kernel
theorem dX10_middle_8 : decode cX10_middle 8 = .ok (.invokevirtual 126, 3) := by decide +kernel
theorem dX10_middle_11 : decode cX10_middle 11 = .ok (.aload_n 0, 1) := by decide +kernel
theorem dX10_middle_12 : decode cX10_middle 12 = .ok (.aload_n 0, 1) := by decide +kernel
theorem dX10_middle_13 : decode cX10_middle 13 = .ok (.getfield 44, 3) := by decide +kernel
theorem dX10_middle_16 : decode cX10_middle 16 = .ok (.iload_n 1, 1) := by decide +kernel
theorem dX10_middle_17 : decode cX10_middle 17 = .ok (.invokevirtual 136, 3) := by decide +kernel
theorem dX10_middle_20 : decode cX10_middle 20 = .ok (.invokevirtual 133, 3) := by decide +kernel
theorem dX10_middle_23 : decode cX10_middle 23 = .ok (.ireturn, 1) := by decide +kernel
theorem dX10_join_0 : decode cX10_join 0 = .ok (.aload_n 0, 1) := by decide +kernel
theorem dX10_join_1 : decode cX10_join 1 = .ok (.getfield 58, 3) := by decide +kernel
theorem dX10_join_4 : decode cX10_join 4 = .ok (.aload_n 0, 1) := by decide +kernel
theorem dX10_join_5 : decode cX10_join 5 = .ok (.getfield 18, 3) := by decide +kernel
theorem dX10_join_8 : decode cX10_join 8 = .ok (.invokevirtual 126, 3) := by decide +kernel
theorem dX10_join_11 : decode cX10_join 11 = .ok (.aload_n 0, 1) := by decide +kernel
theorem dX10_join_12 : decode cX10_join 12 = .ok (.aload_n 0, 1) := by decide +kernel
theorem dX10_join_13 : decode cX10_join 13 = .ok (.getfield 44, 3) := by decide +kernel
theorem dX10_join_16 : decode cX10_join 16 = .ok (.iload_n 1, 1) := by decide +kernel
theorem dX10_join_17 : decode cX10_join 17 = .ok (.invokevirtual 139, 3) := by decide +kernel
theorem dX10_join_20 : decode cX10_join 20 = .ok (.invokevirtual 133, 3) := by decide +kernel
theorem dX10_join_23 : decode cX10_join 23 = .ok (.ireturn, 1) := by decide +kernel
theorem dX10_move_0 : decode cX10_move 0 = .ok (.aload_n 0, 1) := by decide +kernel
theorem dX10_move_1 : decode cX10_move 1 = .ok (.getfield 58, 3) := by decide +kernel
theorem dX10_move_4 : decode cX10_move 4 = .ok (.aload_n 0, 1) := by decide +kernel
theorem dX10_move_5 : decode cX10_move 5 = .ok (.getfield 18, 3) := by decide +kernel
theorem dX10_move_8 : decode cX10_move 8 = .ok (.invokevirtual 126, 3) := by decide +kernel
theorem dX10_move_11 : decode cX10_move 11 = .ok (.aload_n 0, 1) := by decide +kernel
theorem dX10_move_12 : decode cX10_move 12 = .ok (.aload_n 0, 1) := by decide +kernel
theorem dX10_move_13 : decode cX10_move 13 = .ok (.getfield 51, 3) := by decide +kernel
theorem dX10_move_16 : decode cX10_move 16 = .ok (.iload_n 1, 1) := by decide +kernel
theorem dX10_move_17 : decode cX10_move 17 = .ok (.iload_n 2, 1) := by decide +kernel
theorem dX10_move_18 : decode cX10_move 18 = .ok (.invokevirtual 142, 3) := by decide +kernel
theorem dX10_move_21 : decode cX10_move 21 = .ok (.invokevirtual 133, 3) := by decide +kernel
theorem dX10_move_24 : decode cX10_move 24 = .ok (.ireturn, 1) := by decide +kernel
theorem dX10_step_0 : decode cX10_step 0 = .ok (.aload_n 0, 1) := by decide +kernel
theorem dX10_step_1 : decode cX10_step 1 = .ok (.getfield 58, 3) := by decide +kernel
theorem dX10_step_4 : decode cX10_step 4 = .ok (.aload_n 0, 1) := by decide +kernel
theorem dX10_step_5 : decode cX10_step 5 = .ok (.getfield 18, 3) := by decide +kernel
theorem dX10_step_8 : decode cX10_step 8 = .ok (.invokevirtual 126, 3) := by decide +kernel
theorem dX10_step_11 : decode cX10_step 11 = .ok (.aload_n 0, 1) := by decide +kernel
theorem dX10_step_12 : decode cX10_step 12 = .ok (.aload_n 0, 1) := by decide +kernel
theorem dX10_step_13 : decode cX10_step 13 = .ok (.getfield 51, 3) := by decide +kernel
theorem dX10_step_16 : decode cX10_step 16 = .ok (.iload_n 1, 1) := by decide +kernel
theorem dX10_step_17 : decode cX10_step 17 = .ok (.iload_n 2, 1) := by decide +kernel
theorem dX10_step_18 : decode cX10_step 18 = .ok (.invokevirtual 145, 3) := by decide +kernel
theorem dX10_step_21 : decode cX10_step 21 = .ok (.invokevirtual 133, 3) := by decide +kernel
theorem dX10_step_24 : decode cX10_step 24 = .ok (.ireturn, 1) := by decide +kernel
theorem dX10_fail_0 : decode cX10_fail 0 = .ok (.aload_n 0, 1) := by decide +kernel
theorem dX10_fail_1 : decode cX10_fail 1 = .ok (.getfield 51, 3) := by decide +kernel
theorem dX10_fail_4 : decode cX10_fail 4 = .ok (.iload_n 1, 1) := by decide +kernel
theorem dX10_fail_5 : decode cX10_fail 5 = .ok (.iload_n 2, 1) := by decide +kernel
theorem dX10_fail_6 : decode cX10_fail 6 = .ok (.invokevirtual 148, 3) := by decide +kernel
theorem dX10_fail_9 : decode cX10_fail 9 = .ok (.istore_n 3, 1) := by decide +kernel
theorem dX10_fail_10 : decode cX10_fail 10 = .ok (.iload_n 3, 1) := by decide +kernel
theorem dX10_fail_11 : decode cX10_fail 11 = .ok (.ifCond .eq 10, 3) := by decide +kernel
theorem dX10_fail_14 : decode cX10_fail 14 = .ok (.aload_n 0, 1) := by decide +kernel
theorem dX10_fail_15 : decode cX10_fail 15 = .ok (.getfield 58, 3) := by decide +kernel
theorem dX10_fail_18 : decode cX10_fail 18 = .ok (.invokevirtual 83, 3) := by decide +kernel
theorem dX10_fail_21 : decode cX10_fail 21 = .ok (.iload_n 3, 1) := by decide +kernel
theorem dX10_fail_22 : decode cX10_fail 22 = .ok (.ireturn, 1) := by decide +kernel
theorem dX10_down_0 : decode cX10_down 0 = .ok (.aload_n 0, 1) := by decide +kernel
theorem dX10_down_1 : decode cX10_down 1 = .ok (.getfield 51, 3) := by decide +kernel
theorem dX10_down_4 : decode cX10_down 4 = .ok (.iload_n 1, 1) := by decide +kernel
theorem dX10_down_5 : decode cX10_down 5 = .ok (.invokevirtual 152, 3) := by decide +kernel
theorem dX10_down_8 : decode cX10_down 8 = .ok (.istore_n 2, 1) := by decide +kernel
theorem dX10_down_9 : decode cX10_down 9 = .ok (.iload_n 2, 1) := by decide +kernel
theorem dX10_down_10 : decode cX10_down 10 = .ok (.iconst (-1), 1) := by decide +kernel
theorem dX10_down_11 : decode cX10_down 11 = .ok (.if_icmp .eq 10, 3) := by decide +kernel
theorem dX10_down_14 : decode cX10_down 14 = .ok (.aload_n 0, 1) := by decide +kernel
theorem dX10_down_15 : decode cX10_down 15 = .ok (.getfield 58, 3) := by decide +kernel
theorem dX10_down_18 : decode cX10_down 18 = .ok (.invokevirtual 83, 3) := by decide +kernel
theorem dX10_down_21 : decode cX10_down 21 = .ok (.iload_n 2, 1) := by decide +kernel
theorem dX10_down_22 : decode cX10_down 22 = .ok (.ireturn, 1) := by decide +kernel
theorem dX10_up_0 : decode cX10_up 0 = .ok (.aload_n 0, 1) := by decide +kernel
theorem dX10_up_1 : decode cX10_up 1 = .ok (.getfield 18, 3) := by decide +kernel
theorem dX10_up_4 : decode cX10_up 4 = .ok (.iload_n 1, 1) := by decide +kernel
theorem dX10_up_5 : decode cX10_up 5 = .ok (.invokevirtual 155, 3) := by decide +kernel
theorem dX10_up_8 : decode cX10_up 8 = .ok (.istore_n 2, 1) := by decide +kernel
theorem dX10_up_9 : decode cX10_up 9 = .ok (.iload_n 2, 1) := by decide +kernel
theorem dX10_up_10 : decode cX10_up 10 = .ok (.ifCond .eq 10, 3) := by decide +kernel
theorem dX10_up_13 : decode cX10_up 13 = .ok (.aload_n 0, 1) := by decide +kernel
theorem dX10_up_14 : decode cX10_up 14 = .ok (.getfield 58, 3) := by decide +kernel
theorem dX10_up_17 : decode cX10_up 17 = .ok (.invokevirtual 83, 3) := by decide +kernel
theorem dX10_up_20 : decode cX10_up 20 = .ok (.iload_n 2, 1) := by decide +kernel
theorem dX10_up_21 : decode cX10_up 21 = .ok (.ireturn, 1) := by decide +kernel
theorem dX10_recover_0 : decode cX10_recover 0 = .ok (.aload_n 0, 1) := by decide +kernel
theorem dX10_recover_1 : decode cX10_recover 1 = .ok (.getfield 58, 3) := by decide +kernel
theorem dX10_recover_4 : decode cX10_recover 4 = .ok (.aload_n 0, 1) := by decide +kernel
theorem dX10_recover_5 : decode cX10_recover 5 = .ok (.getfield 18, 3) := by decide +kernel
theorem dX10_recover_8 : decode cX10_recover 8 = .ok (.invokevirtual 126, 3) := by decide +kernel
theorem dX10_recover_11 : decode cX10_recover 11 = .ok (.aload_n 0, 1) := by decide +kernel
theorem dX10_recover_12 : decode cX10_recover 12 = .ok (.aload_n 0, 1) := by decide +kernel
theorem dX10_recover_13 : decode cX10_recover 13 = .ok (.getfield 51, 3) := by decide +kernel
theorem dX10_recover_16 : decode cX10_recover 16 = .ok (.iload_n 1, 1) := by decide +kernel
theorem dX10_recover_17 : decode cX10_recover 17 = .ok (.invokevirtual 158, 3) := by decide +kernel
theorem dX10_recover_20 : decode cX10_recover 20 = .ok (.invokevirtual 133, 3) := by decide +kernel
theorem dX10_recover_23 : decode cX10_recover 23 = .ok (.ireturn, 1) := by decide +kernel
theorem dX10_give_0 : decode cX10_give 0 = .ok (.aload_n 0, 1) := by decide +kernel
theorem dX10_give_1 : decode cX10_give 1 = .ok (.getfield 58, 3) := by decide +kernel
theorem dX10_give_4 : decode cX10_give 4 = .ok (.aload_n 0, 1) := by decide +kernel
theorem dX10_give_5 : decode cX10_give 5 = .ok (.getfield 18, 3) := by decide +kernel
theorem dX10_give_8 : decode cX10_give 8 = .ok (.invokevirtual 126, 3) := by decide +kernel
theorem dX10_give_11 : decode cX10_give 11 = .ok (.aload_n 0, 1) := by decide +kernel
theorem dX10_give_12 : decode cX10_give 12 = .ok (.getfield 51, 3) := by decide +kernel
theorem dX10_give_15 : decode cX10_give 15 = .ok (.iload_n 1, 1) := by decide +kernel
theorem dX10_give_16 : decode cX10_give 16 = .ok (.invokevirtual 161, 3) := by decide +kernel
theorem dX10_give_19 : decode cX10_give 19 = .ok (.istore_n 2, 1) := by decide +kernel
theorem dX10_give_20 : decode cX10_give 20 = .ok (.iload_n 2, 1) := by decide +kernel
theorem dX10_give_21 : decode cX10_give 21 = .ok (.ifCond .eq 10, 3) := by decide +kernel
theorem dX10_give_24 : decode cX10_give 24 = .ok (.aload_n 0, 1) := by decide +kernel
theorem dX10_give_25 : decode cX10_give 25 = .ok (.getfield 58, 3) := by decide +kernel
theorem dX10_give_28 : decode cX10_give 28 = .ok (.invokevirtual 164, 3) := by decide +kernel
theorem dX10_give_31 : decode cX10_give 31 = .ok (.iload_n 2, 1) := by decide +kernel
theorem dX10_give_32 : decode cX10_give 32 = .ok (.ireturn, 1) := by decide +kernel
theorem dX10_age_0 : decode cX10_age 0 = .ok (.aload_n 0, 1) := by decide +kernel
theorem dX10_age_1 : decode cX10_age 1 = .ok (.getfield 58, 3) := by decide +kernel
theorem dX10_age_4 : decode cX10_age 4 = .ok (.aload_n 0, 1) := by decide +kernel
theorem dX10_age_5 : decode cX10_age 5 = .ok (.getfield 18, 3) := by decide +kernel
theorem dX10_age_8 : decode cX10_age 8 = .ok (.invokevirtual 126, 3) := by decide +kernel
theorem dX10_age_11 : decode cX10_age 11 = .ok (.aload_n 0, 1) := by decide +kernel
theorem dX10_age_12 : decode cX10_age 12 = .ok (.getfield 18, 3) := by decide +kernel
theorem dX10_age_15 : decode cX10_age 15 = .ok (.invokevirtual 167, 3) := by decide +kernel
theorem dX10_age_18 : decode cX10_age 18 = .ok (.lstore_n 1, 1) := by decide +kernel
theorem dX10_age_19 : decode cX10_age 19 = .ok (.aload_n 0, 1) := by decide +kernel
theorem dX10_age_20 : decode cX10_age 20 = .ok (.getfield 58, 3) := by decide +kernel
theorem dX10_age_23 : decode cX10_age 23 = .ok (.invokevirtual 164, 3) := by decide +kernel
theorem dX10_age_26 : decode cX10_age 26 = .ok (.lload_n 1, 1) := by decide +kernel
theorem dX10_age_27 : decode cX10_age 27 = .ok (.lreturn, 1) := by decide +kernel
theorem dX10_chunk_0 : decode cX10_chunk 0 = .ok (.aload_n 0, 1) := by decide +kernel
theorem dX10_chunk_1 : decode cX10_chunk 1 = .ok (.getfield 18, 3) := by decide +kernel
theorem dX10_chunk_4 : decode cX10_chunk 4 = .ok (.iload_n 1, 1) := by decide +kernel
theorem dX10_chunk_5 : decode cX10_chunk 5 = .ok (.invokevirtual 171, 3) := by decide +kernel
theorem dX10_chunk_8 : decode cX10_chunk 8 = .ok (.istore_n 2, 1) := by decide +kernel
theorem dX10_chunk_9 : decode cX10_chunk 9 = .ok (.iload_n 2, 1) := by decide +kernel
theorem dX10_chunk_10 : decode cX10_chunk 10 = .ok (.ifCond .eq 10, 3) := by decide +kernel
theorem dX10_chunk_13 : decode cX10_chunk 13 = .ok (.aload_n 0, 1) := by decide +kernel
theorem dX10_chunk_14 : decode cX10_chunk 14 = .ok (.getfield 58, 3) := by decide +kernel
theorem dX10_chunk_17 : decode cX10_chunk 17 = .ok (.invokevirtual 83, 3) := by decide +kernel
theorem dX10_chunk_20 : decode cX10_chunk 20 = .ok (.iload_n 2, 1) := by decide +kernel
theorem dX10_chunk_21 : decode cX10_chunk 21 = .ok (.ireturn, 1) := by decide +kernel
theorem dX10_feed_0 : decode cX10_feed 0 = .ok (.aload_n 0, 1) := by decide +kernel
theorem dX10_feed_1 : decode cX10_feed 1 = .ok (.getfield 65, 3) := by decide +kernel
theorem dX10_feed_4 : decode cX10_feed 4 = .ok (.getfield 174, 3) := by decide +kernel
theorem dX10_feed_7 : decode cX10_feed 7 = .ok (.sipush 380, 3) := by decide +kernel
theorem dX10_feed_10 : decode cX10_feed 10 = .ok (.if_icmp .le 5, 3) := by decide +kernel
theorem dX10_feed_13 : decode cX10_feed 13 = .ok (.iconst (-1), 1) := by decide +kernel
theorem dX10_feed_14 : decode cX10_feed 14 = .ok (.ireturn, 1) := by decide +kernel
theorem dX10_feed_15 : decode cX10_feed 15 = .ok (.aload_n 0, 1) := by decide +kernel
theorem dX10_feed_16 : decode cX10_feed 16 = .ok (.getfield 65, 3) := by decide +kernel
theorem dX10_feed_19 : decode cX10_feed 19 = .ok (.iload_n 1, 1) := by decide +kernel
theorem dX10_feed_20 : decode cX10_feed 20 = .ok (.invokevirtual 177, 3) := by decide +kernel
theorem dX10_feed_23 : decode cX10_feed 23 = .ok (.aload_n 0, 1) := by decide +kernel
theorem dX10_feed_24 : decode cX10_feed 24 = .ok (.getfield 65, 3) := by decide +kernel
theorem dX10_feed_27 : decode cX10_feed 27 = .ok (.iload_n 2, 1) := by decide +kernel
theorem dX10_feed_28 : decode cX10_feed 28 = .ok (.invokevirtual 177, 3) := by decide +kernel
theorem dX10_feed_31 : decode cX10_feed 31 = .ok (.aload_n 0, 1) := by decide +kernel
theorem dX10_feed_32 : decode cX10_feed 32 = .ok (.getfield 65, 3) := by decide +kernel
theorem dX10_feed_35 : decode cX10_feed 35 = .ok (.iload_n 3, 1) := by decide +kernel
theorem dX10_feed_36 : decode cX10_feed 36 = .ok (.invokevirtual 177, 3) := by decide +kernel
theorem dX10_feed_39 : decode cX10_feed 39 = .ok (.aload_n 0, 1) := by decide +kernel
theorem dX10_feed_40 : decode cX10_feed 40 = .ok (.getfield 65, 3) := by decide +kernel
theorem dX10_feed_43 : decode cX10_feed 43 = .ok (.iload 4, 2) := by decide +kernel
theorem dX10_feed_45 : decode cX10_feed 45 = .ok (.invokevirtual 177, 3) := by decide +kernel
theorem dX10_feed_48 : decode cX10_feed 48 = .ok (.aload_n 0, 1) := by decide +kernel
theorem dX10_feed_49 : decode cX10_feed 49 = .ok (.getfield 65, 3) := by decide +kernel
theorem dX10_feed_52 : decode cX10_feed 52 = .ok (.iload 5, 2) := by decide +kernel
theorem dX10_feed_54 : decode cX10_feed 54 = .ok (.invokevirtual 177, 3) := by decide +kernel
theorem dX10_feed_57 : decode cX10_feed 57 = .ok (.aload_n 0, 1) := by decide +kernel
theorem dX10_feed_58 : decode cX10_feed 58 = .ok (.getfield 65, 3) := by decide +kernel
theorem dX10_feed_61 : decode cX10_feed 61 = .ok (.getfield 174, 3) := by decide +kernel
theorem dX10_feed_64 : decode cX10_feed 64 = .ok (.ireturn, 1) := by decide +kernel
theorem dX10_end_0 : decode cX10_end 0 = .ok (.iload_n 1, 1) := by decide +kernel
theorem dX10_end_1 : decode cX10_end 1 = .ok (.ifCond .lt 14, 3) := by decide +kernel
theorem dX10_end_4 : decode cX10_end 4 = .ok (.iload_n 1, 1) := by decide +kernel
theorem dX10_end_5 : decode cX10_end 5 = .ok (.aload_n 0, 1) := by decide +kernel
theorem dX10_end_6 : decode cX10_end 6 = .ok (.getfield 65, 3) := by decide +kernel
theorem dX10_end_9 : decode cX10_end 9 = .ok (.getfield 174, 3) := by decide +kernel
theorem dX10_end_12 : decode cX10_end 12 = .ok (.if_icmp .le 5, 3) := by decide +kernel
theorem dX10_end_15 : decode cX10_end 15 = .ok (.iconst 0, 1) := by decide +kernel
theorem dX10_end_16 : decode cX10_end 16 = .ok (.ireturn, 1) := by decide +kernel
theorem dX10_end_17 : decode cX10_end 17 = .ok (.aload_n 0, 1) := by decide +kernel
theorem dX10_end_18 : decode cX10_end 18 = .ok (.getfield 65, 3) := by decide +kernel
theorem dX10_end_21 : decode cX10_end 21 = .ok (.iload_n 1, 1) := by decide +kernel
theorem dX10_end_22 : decode cX10_end 22 = .ok (.putfield 174, 3) := by decide +kernel
theorem dX10_end_25 : decode cX10_end 25 = .ok (.iconst 1, 1) := by decide +kernel
theorem dX10_end_26 : decode cX10_end 26 = .ok (.ireturn, 1) := by decide +kernel
theorem dX10_script_0 : decode cX10_script 0 = .ok (.aload_n 0, 1) := by decide +kernel
theorem dX10_script_1 : decode cX10_script 1 = .ok (.iconst (-1), 1) := by decide +kernel
theorem dX10_script_2 : decode cX10_script 2 = .ok (.putfield 75, 3) := by decide +kernel
theorem dX10_script_5 : decode cX10_script 5 = .ok (.aload_n 0, 1) := by decide +kernel
theorem dX10_script_6 : decode cX10_script 6 = .ok (.getfield 65, 3) := by decide +kernel
theorem dX10_script_9 : decode cX10_script 9 = .ok (.invokevirtual 181, 3) := by decide +kernel
theorem dX10_script_12 : decode cX10_script 12 = .ok (.aload_n 0, 1) := by decide +kernel
theorem dX10_script_13 : decode cX10_script 13 = .ok (.getfield 65, 3) := by decide +kernel
theorem dX10_script_16 : decode cX10_script 16 = .ok (.iconst 0, 1) := by decide +kernel
theorem dX10_script_17 : decode cX10_script 17 = .ok (.putfield 174, 3) := by decide +kernel
theorem dX10_script_20 : decode cX10_script 20 = .ok (.aload_n 0, 1) := by decide +kernel
theorem dX10_script_21 : decode cX10_script 21 = .ok (.getfield 65, 3) := by decide +kernel
theorem dX10_script_24 : decode cX10_script 24 = .ok (.getfield 184, 3) := by decide +kernel
theorem dX10_script_27 : decode cX10_script 27 = .ok (.ifCond .eq 5, 3) := by decide +kernel
theorem dX10_script_30 : decode cX10_script 30 = .ok (.iconst (-1), 1) := by decide +kernel
theorem dX10_script_31 : decode cX10_script 31 = .ok (.ireturn, 1) := by decide +kernel
theorem dX10_script_32 : decode cX10_script 32 = .ok (.aload_n 0, 1) := by decide +kernel
theorem dX10_script_33 : decode cX10_script 33 = .ok (.getfield 58, 3) := by decide +kernel
theorem dX10_script_36 : decode cX10_script 36 = .ok (.aload_n 0, 1) := by decide +kernel
theorem dX10_script_37 : decode cX10_script 37 = .ok (.getfield 18, 3) := by decide +kernel
theorem dX10_script_40 : decode cX10_script 40 = .ok (.invokevirtual 126, 3) := by decide +kernel
theorem dX10_script_43 : decode cX10_script 43 = .ok (.iconst 0, 1) := by decide +kernel
theorem dX10_script_44 : decode cX10_script 44 = .ok (.istore_n 1, 1) := by decide +kernel
theorem dX10_script_45 : decode cX10_script 45 = .ok (.iconst 0, 1) := by decide +kernel
theorem dX10_script_46 : decode cX10_script 46 = .ok (.istore_n 2, 1) := by decide +kernel
theorem dX10_script_47 : decode cX10_script 47 = .ok (.iload_n 2, 1) := by decide +kernel
theorem dX10_script_48 : decode cX10_script 48 = .ok (.aload_n 0, 1) := by decide +kernel
theorem dX10_script_49 : decode cX10_script 49 = .ok (.getfield 65, 3) := by decide +kernel
theorem dX10_script_52 : decode cX10_script 52 = .ok (.getfield 187, 3) := by decide +kernel
theorem dX10_script_55 : decode cX10_script 55 = .ok (.if_icmp .ge 71, 3) := by decide +kernel
theorem dX10_script_58 : decode cX10_script 58 = .ok (.aload_n 0, 1) := by decide +kernel
theorem dX10_script_59 : decode cX10_script 59 = .ok (.getfield 75, 3) := by decide +kernel
theorem dX10_script_62 : decode cX10_script 62 = .ok (.iconst (-1), 1) := by decide +kernel
theorem dX10_script_63 : decode cX10_script 63 = .ok (.if_icmp .ne 63, 3) := by decide +kernel
theorem dX10_script_66 : decode cX10_script 66 = .ok (.aload_n 0, 1) := by decide +kernel
theorem dX10_script_67 : decode cX10_script 67 = .ok (.aload_n 0, 1) := by decide +kernel
theorem dX10_script_68 : decode cX10_script 68 = .ok (.getfield 65, 3) := by decide +kernel
theorem dX10_script_71 : decode cX10_script 71 = .ok (.getfield 190, 3) := by decide +kernel
theorem dX10_script_74 : decode cX10_script 74 = .ok (.iload_n 2, 1) := by decide +kernel
theorem dX10_script_75 : decode cX10_script 75 = .ok (.iaload, 1) := by decide +kernel
theorem dX10_script_76 : decode cX10_script 76 = .ok (.aload_n 0, 1) := by decide +kernel
theorem dX10_script_77 : decode cX10_script 77 = .ok (.getfield 65, 3) := by decide +kernel
theorem dX10_script_80 : decode cX10_script 80 = .ok (.iload_n 2, 1) := by decide +kernel
theorem dX10_script_81 : decode cX10_script 81 = .ok (.iconst 0, 1) := by decide +kernel
theorem dX10_script_82 : decode cX10_script 82 = .ok (.invokevirtual 193, 3) := by decide +kernel
theorem dX10_script_85 : decode cX10_script 85 = .ok (.aload_n 0, 1) := by decide +kernel
theorem dX10_script_86 : decode cX10_script 86 = .ok (.getfield 65, 3) := by decide +kernel
theorem dX10_script_89 : decode cX10_script 89 = .ok (.iload_n 2, 1) := by decide +kernel
theorem dX10_script_90 : decode cX10_script 90 = .ok (.iconst 1, 1) := by decide +kernel
theorem dX10_script_91 : decode cX10_script 91 = .ok (.invokevirtual 193, 3) := by decide +kernel
theorem dX10_script_94 : decode cX10_script 94 = .ok (.aload_n 0, 1) := by decide +kernel
theorem dX10_script_95 : decode cX10_script 95 = .ok (.getfield 65, 3) := by decide +kernel
theorem dX10_script_98 : decode cX10_script 98 = .ok (.iload_n 2, 1) := by decide +kernel
theorem dX10_script_99 : decode cX10_script 99 = .ok (.iconst 2, 1) := by decide +kernel
theorem dX10_script_100 : decode cX10_script 100 = .ok (.invokevirtual 193, 3) := by decide +kernel
theorem dX10_script_103 : decode cX10_script 103 = .ok (.invokevirtual 196, 3) := by decide +kernel
theorem dX10_script_106 : decode cX10_script 106 = .ok (.ifCond .eq 9, 3) := by decide +kernel
theorem dX10_script_109 : decode cX10_script 109 = .ok (.iinc 1 1, 3) := by decide +kernel
theorem dX10_script_112 : decode cX10_script 112 = .ok (.goto 8, 3) := by decide +kernel
theorem dX10_script_115 : decode cX10_script 115 = .ok (.aload_n 0, 1) := by decide +kernel
theorem dX10_script_116 : decode cX10_script 116 = .ok (.iload_n 2, 1) := by decide +kernel
theorem dX10_script_117 : decode cX10_script 117 = .ok (.putfield 75, 3) := by decide +kernel
theorem dX10_script_120 : decode cX10_script 120 = .ok (.iinc 2 1, 3) := by decide +kernel
theorem dX10_script_123 : decode cX10_script 123 = .ok (.goto (-76), 3) := by decide +kernel
theorem dX10_script_126 : decode cX10_script 126 = .ok (.iload_n 1, 1) := by decide +kernel
theorem dX10_script_127 : decode cX10_script 127 = .ok (.ifCond .le 10, 3) := by decide +kernel
theorem dX10_script_130 : decode cX10_script 130 = .ok (.aload_n 0, 1) := by decide +kernel
theorem dX10_script_131 : decode cX10_script 131 = .ok (.getfield 58, 3) := by decide +kernel
theorem dX10_script_134 : decode cX10_script 134 = .ok (.invokevirtual 164, 3) := by decide +kernel
theorem dX10_script_137 : decode cX10_script 137 = .ok (.iload_n 1, 1) := by decide +kernel
theorem dX10_script_138 : decode cX10_script 138 = .ok (.ireturn, 1) := by decide +kernel
theorem dX10_fault_0 : decode cX10_fault 0 = .ok (.iload_n 1, 1) := by decide +kernel
theorem dX10_fault_1 : decode cX10_fault 1 = .ok (.tableswitch 48 0 2 #[27, 35, 43], 27) := by decide +kernel
theorem dX10_fault_28 : decode cX10_fault 28 = .ok (.aload_n 0, 1) := by decide +kernel
theorem dX10_fault_29 : decode cX10_fault 29 = .ok (.getfield 65, 3) := by decide +kernel
theorem dX10_fault_32 : decode cX10_fault 32 = .ok (.getfield 184, 3) := by decide +kernel
theorem dX10_fault_35 : decode cX10_fault 35 = .ok (.ireturn, 1) := by decide +kernel
theorem dX10_fault_36 : decode cX10_fault 36 = .ok (.aload_n 0, 1) := by decide +kernel
theorem dX10_fault_37 : decode cX10_fault 37 = .ok (.getfield 65, 3) := by decide +kernel
theorem dX10_fault_40 : decode cX10_fault 40 = .ok (.getfield 200, 3) := by decide +kernel
theorem dX10_fault_43 : decode cX10_fault 43 = .ok (.ireturn, 1) := by decide +kernel
theorem dX10_fault_44 : decode cX10_fault 44 = .ok (.aload_n 0, 1) := by decide +kernel
theorem dX10_fault_45 : decode cX10_fault 45 = .ok (.getfield 75, 3) := by decide +kernel
theorem dX10_fault_48 : decode cX10_fault 48 = .ok (.ireturn, 1) := by decide +kernel
theorem dX10_fault_49 : decode cX10_fault 49 = .ok (.iconst (-1), 1) := by decide +kernel
theorem dX10_fault_50 : decode cX10_fault 50 = .ok (.ireturn, 1) := by decide +kernel
theorem dX10_undo_0 : decode cX10_undo 0 = .ok (.aload_n 0, 1) := by decide +kernel
theorem dX10_undo_1 : decode cX10_undo 1 = .ok (.getfield 58, 3) := by decide +kernel
theorem dX10_undo_4 : decode cX10_undo 4 = .ok (.aload_n 0, 1) := by decide +kernel
theorem dX10_undo_5 : decode cX10_undo 5 = .ok (.getfield 18, 3) := by decide +kernel
theorem dX10_undo_8 : decode cX10_undo 8 = .ok (.invokevirtual 203, 3) := by decide +kernel
theorem dX10_undo_11 : decode cX10_undo 11 = .ok (.ifCond .ne 5, 3) := by decide +kernel
theorem dX10_undo_14 : decode cX10_undo 14 = .ok (.iconst (-1), 1) := by decide +kernel
theorem dX10_undo_15 : decode cX10_undo 15 = .ok (.ireturn, 1) := by decide +kernel
theorem dX10_undo_16 : decode cX10_undo 16 = .ok (.aload_n 0, 1) := by decide +kernel
theorem dX10_undo_17 : decode cX10_undo 17 = .ok (.getfield 58, 3) := by decide +kernel
theorem dX10_undo_20 : decode cX10_undo 20 = .ok (.getfield 207, 3) := by decide +kernel
theorem dX10_undo_23 : decode cX10_undo 23 = .ok (.ireturn, 1) := by decide +kernel
theorem dX10_image_0 : decode cX10_image 0 = .ok (.iload_n 1, 1) := by decide +kernel
theorem dX10_image_1 : decode cX10_image 1 = .ok (.ifCond .eq 9, 3) := by decide +kernel
theorem dX10_image_4 : decode cX10_image 4 = .ok (.aload_n 0, 1) := by decide +kernel
theorem dX10_image_5 : decode cX10_image 5 = .ok (.invokevirtual 210, 3) := by decide +kernel
theorem dX10_image_8 : decode cX10_image 8 = .ok (.iconst 1, 1) := by decide +kernel
theorem dX10_image_9 : decode cX10_image 9 = .ok (.ireturn, 1) := by decide +kernel
theorem dX10_image_10 : decode cX10_image 10 = .ok (.aload_n 0, 1) := by decide +kernel
theorem dX10_image_11 : decode cX10_image 11 = .ok (.getfield 69, 3) := by decide +kernel
theorem dX10_image_14 : decode cX10_image 14 = .ok (.ifnull 10, 3) := by decide +kernel
theorem dX10_image_17 : decode cX10_image 17 = .ok (.aload_n 0, 1) := by decide +kernel
theorem dX10_image_18 : decode cX10_image 18 = .ok (.getfield 72, 3) := by decide +kernel
theorem dX10_image_21 : decode cX10_image 21 = .ok (.ifnonnull 5, 3) := by decide +kernel
theorem dX10_image_24 : decode cX10_image 24 = .ok (.iconst 0, 1) := by decide +kernel
theorem dX10_image_25 : decode cX10_image 25 = .ok (.ireturn, 1) := by decide +kernel
theorem dX10_image_26 : decode cX10_image 26 = .ok (.aload_n 0, 1) := by decide +kernel
theorem dX10_image_27 : decode cX10_image 27 = .ok (.getfield 18, 3) := by decide +kernel
theorem dX10_image_30 : decode cX10_image 30 = .ok (.aload_n 0, 1) := by decide +kernel
theorem dX10_image_31 : decode cX10_image 31 = .ok (.getfield 69, 3) := by decide +kernel
theorem dX10_image_34 : decode cX10_image 34 = .ok (.invokevirtual 213, 3) := by decide +kernel
theorem dX10_image_37 : decode cX10_image 37 = .ok (.aload_n 0, 1) := by decide +kernel
theorem dX10_image_38 : decode cX10_image 38 = .ok (.getfield 22, 3) := by decide +kernel
theorem dX10_image_41 : decode cX10_image 41 = .ok (.aload_n 0, 1) := by decide +kernel
theorem dX10_image_42 : decode cX10_image 42 = .ok (.getfield 72, 3) := by decide +kernel
theorem dX10_image_45 : decode cX10_image 45 = .ok (.aload_n 0, 1) := by decide +kernel
theorem dX10_image_46 : decode cX10_image 46 = .ok (.getfield 69, 3) := by decide +kernel
theorem dX10_image_49 : decode cX10_image 49 = .ok (.getfield 216, 3) := by decide +kernel
theorem dX10_image_52 : decode cX10_image 52 = .ok (.getfield 105, 3) := by decide +kernel
theorem dX10_image_55 : decode cX10_image 55 = .ok (.invokevirtual 220, 3) := by decide +kernel
theorem dX10_image_58 : decode cX10_image 58 = .ok (.aload_n 0, 1) := by decide +kernel
theorem dX10_image_59 : decode cX10_image 59 = .ok (.getfield 58, 3) := by decide +kernel
theorem dX10_image_62 : decode cX10_image 62 = .ok (.invokevirtual 83, 3) := by decide +kernel
theorem dX10_image_65 : decode cX10_image 65 = .ok (.iconst 1, 1) := by decide +kernel
theorem dX10_image_66 : decode cX10_image 66 = .ok (.ireturn, 1) := by decide +kernel
theorem dX10_span_0 : decode cX10_span 0 = .ok (.aload_n 0, 1) := by decide +kernel
theorem dX10_span_1 : decode cX10_span 1 = .ok (.getfield 18, 3) := by decide +kernel
theorem dX10_span_4 : decode cX10_span 4 = .ok (.getfield 216, 3) := by decide +kernel
theorem dX10_span_7 : decode cX10_span 7 = .ok (.astore_n 3, 1) := by decide +kernel
theorem dX10_span_8 : decode cX10_span 8 = .ok (.iload_n 1, 1) := by decide +kernel
theorem dX10_span_9 : decode cX10_span 9 = .ok (.iconst (-1), 1) := by decide +kernel
theorem dX10_span_10 : decode cX10_span 10 = .ok (.if_icmp .ne 8, 3) := by decide +kernel
theorem dX10_span_13 : decode cX10_span 13 = .ok (.aload_n 3, 1) := by decide +kernel
theorem dX10_span_14 : decode cX10_span 14 = .ok (.getfield 223, 3) := by decide +kernel
theorem dX10_span_17 : decode cX10_span 17 = .ok (.ireturn, 1) := by decide +kernel
theorem dX10_span_18 : decode cX10_span 18 = .ok (.aload_n 3, 1) := by decide +kernel
theorem dX10_span_19 : decode cX10_span 19 = .ok (.iload_n 1, 1) := by decide +kernel
theorem dX10_span_20 : decode cX10_span 20 = .ok (.invokevirtual 226, 3) := by decide +kernel
theorem dX10_span_23 : decode cX10_span 23 = .ok (.ifCond .ne 5, 3) := by decide +kernel
theorem dX10_span_26 : decode cX10_span 26 = .ok (.iconst (-1), 1) := by decide +kernel
theorem dX10_span_27 : decode cX10_span 27 = .ok (.ireturn, 1) := by decide +kernel
theorem dX10_span_28 : decode cX10_span 28 = .ok (.iload_n 2, 1) := by decide +kernel
theorem dX10_span_29 : decode cX10_span 29 = .ok (.tableswitch 131 0 6 #[43, 50, 56, 63, 70, 84, 106], 43) := by decide +kernel
theorem dX10_span_72 : decode cX10_span 72 = .ok (.aload_n 3, 1) := by decide +kernel
theorem dX10_span_73 : decode cX10_span 73 = .ok (.getfield 229, 3) := by decide +kernel
theorem dX10_span_76 : decode cX10_span 76 = .ok (.iload_n 1, 1) := by decide +kernel
theorem dX10_span_77 : decode cX10_span 77 = .ok (.iaload, 1) := by decide +kernel
theorem dX10_span_78 : decode cX10_span 78 = .ok (.ireturn, 1) := by decide +kernel
theorem dX10_span_79 : decode cX10_span 79 = .ok (.aload_n 3, 1) := by decide +kernel
theorem dX10_span_80 : decode cX10_span 80 = .ok (.iload_n 1, 1) := by decide +kernel
theorem dX10_span_81 : decode cX10_span 81 = .ok (.invokevirtual 232, 3) := by decide +kernel
theorem dX10_span_84 : decode cX10_span 84 = .ok (.ireturn, 1) := by decide +kernel
theorem dX10_span_85 : decode cX10_span 85 = .ok (.aload_n 3, 1) := by decide +kernel
theorem dX10_span_86 : decode cX10_span 86 = .ok (.getfield 235, 3) := by decide +kernel
theorem dX10_span_89 : decode cX10_span 89 = .ok (.iload_n 1, 1) := by decide +kernel
theorem dX10_span_90 : decode cX10_span 90 = .ok (.iaload, 1) := by decide +kernel
theorem dX10_span_91 : decode cX10_span 91 = .ok (.ireturn, 1) := by decide +kernel
theorem dX10_span_92 : decode cX10_span 92 = .ok (.aload_n 3, 1) := by decide +kernel
theorem dX10_span_93 : decode cX10_span 93 = .ok (.getfield 238, 3) := by decide +kernel
theorem dX10_span_96 : decode cX10_span 96 = .ok (.iload_n 1, 1) := by decide +kernel
theorem dX10_span_97 : decode cX10_span 97 = .ok (.iaload, 1) := by decide +kernel
theorem dX10_span_98 : decode cX10_span 98 = .ok (.ireturn, 1) := by decide +kernel
theorem dX10_span_99 : decode cX10_span 99 = .ok (.aload_n 0, 1) := by decide +kernel
theorem dX10_span_100 : decode cX10_span 100 = .ok (.getfield 18, 3) := by decide +kernel
theorem dX10_span_103 : decode cX10_span 103 = .ok (.aload_n 3, 1) := by decide +kernel
theorem dX10_span_104 : decode cX10_span 104 = .ok (.getfield 229, 3) := by decide +kernel
theorem dX10_span_107 : decode cX10_span 107 = .ok (.iload_n 1, 1) := by decide +kernel
theorem dX10_span_108 : decode cX10_span 108 = .ok (.iaload, 1) := by decide +kernel
theorem dX10_span_109 : decode cX10_span 109 = .ok (.invokevirtual 241, 3) := by decide +kernel
theorem dX10_span_112 : decode cX10_span 112 = .ok (.ireturn, 1) := by decide +kernel
theorem dX10_span_113 : decode cX10_span 113 = .ok (.aload_n 0, 1) := by decide +kernel
theorem dX10_span_114 : decode cX10_span 114 = .ok (.getfield 18, 3) := by decide +kernel
theorem dX10_span_117 : decode cX10_span 117 = .ok (.aload_n 3, 1) := by decide +kernel
theorem dX10_span_118 : decode cX10_span 118 = .ok (.getfield 229, 3) := by decide +kernel
theorem dX10_span_121 : decode cX10_span 121 = .ok (.iload_n 1, 1) := by decide +kernel
theorem dX10_span_122 : decode cX10_span 122 = .ok (.iaload, 1) := by decide +kernel
theorem dX10_span_123 : decode cX10_span 123 = .ok (.invokevirtual 244, 3) := by decide +kernel
theorem dX10_span_126 : decode cX10_span 126 = .ok (.ifCond .eq 7, 3) := by decide +kernel
theorem dX10_span_129 : decode cX10_span 129 = .ok (.iconst 1, 1) := by decide +kernel
theorem dX10_span_130 : decode cX10_span 130 = .ok (.goto 4, 3) := by decide +kernel
theorem dX10_span_133 : decode cX10_span 133 = .ok (.iconst 0, 1) := by decide +kernel
theorem dX10_span_134 : decode cX10_span 134 = .ok (.ireturn, 1) := by decide +kernel
theorem dX10_span_135 : decode cX10_span 135 = .ok (.aload_n 0, 1) := by decide +kernel
theorem dX10_span_136 : decode cX10_span 136 = .ok (.getfield 18, 3) := by decide +kernel
theorem dX10_span_139 : decode cX10_span 139 = .ok (.aload_n 3, 1) := by decide +kernel
theorem dX10_span_140 : decode cX10_span 140 = .ok (.getfield 235, 3) := by decide +kernel
theorem dX10_span_143 : decode cX10_span 143 = .ok (.iload_n 1, 1) := by decide +kernel
theorem dX10_span_144 : decode cX10_span 144 = .ok (.iaload, 1) := by decide +kernel
theorem dX10_span_145 : decode cX10_span 145 = .ok (.aload_n 3, 1) := by decide +kernel
theorem dX10_span_146 : decode cX10_span 146 = .ok (.getfield 229, 3) := by decide +kernel
theorem dX10_span_149 : decode cX10_span 149 = .ok (.iload_n 1, 1) := by decide +kernel
theorem dX10_span_150 : decode cX10_span 150 = .ok (.iaload, 1) := by decide +kernel
theorem dX10_span_151 : decode cX10_span 151 = .ok (.aload_n 3, 1) := by decide +kernel
theorem dX10_span_152 : decode cX10_span 152 = .ok (.iload_n 1, 1) := by decide +kernel
theorem dX10_span_153 : decode cX10_span 153 = .ok (.invokevirtual 232, 3) := by decide +kernel
theorem dX10_span_156 : decode cX10_span 156 = .ok (.invokevirtual 247, 3) := by decide +kernel
theorem dX10_span_159 : decode cX10_span 159 = .ok (.ireturn, 1) := by decide +kernel
theorem dX10_span_160 : decode cX10_span 160 = .ok (.iconst (-1), 1) := by decide +kernel
theorem dX10_span_161 : decode cX10_span 161 = .ok (.ireturn, 1) := by decide +kernel
theorem dX10_weight_0 : decode cX10_weight 0 = .ok (.aload_n 0, 1) := by decide +kernel
theorem dX10_weight_1 : decode cX10_weight 1 = .ok (.getfield 18, 3) := by decide +kernel
theorem dX10_weight_4 : decode cX10_weight 4 = .ok (.getfield 216, 3) := by decide +kernel
theorem dX10_weight_7 : decode cX10_weight 7 = .ok (.iload_n 1, 1) := by decide +kernel
theorem dX10_weight_8 : decode cX10_weight 8 = .ok (.invokevirtual 226, 3) := by decide +kernel
theorem dX10_weight_11 : decode cX10_weight 11 = .ok (.ifCond .ne 7, 3) := by decide +kernel
theorem dX10_weight_14 : decode cX10_weight 14 = .ok (.ldc2_w 250, 3) := by decide +kernel
theorem dX10_weight_17 : decode cX10_weight 17 = .ok (.lreturn, 1) := by decide +kernel
theorem dX10_weight_18 : decode cX10_weight 18 = .ok (.aload_n 0, 1) := by decide +kernel
theorem dX10_weight_19 : decode cX10_weight 19 = .ok (.getfield 26, 3) := by decide +kernel
theorem dX10_weight_22 : decode cX10_weight 22 = .ok (.aload_n 0, 1) := by decide +kernel
theorem dX10_weight_23 : decode cX10_weight 23 = .ok (.getfield 18, 3) := by decide +kernel
theorem dX10_weight_26 : decode cX10_weight 26 = .ok (.invokevirtual 252, 3) := by decide +kernel
theorem dX10_weight_29 : decode cX10_weight 29 = .ok (.aload_n 0, 1) := by decide +kernel
theorem dX10_weight_30 : decode cX10_weight 30 = .ok (.getfield 26, 3) := by decide +kernel
theorem dX10_weight_33 : decode cX10_weight 33 = .ok (.iload_n 1, 1) := by decide +kernel
theorem dX10_weight_34 : decode cX10_weight 34 = .ok (.invokevirtual 255, 3) := by decide +kernel
theorem dX10_weight_37 : decode cX10_weight 37 = .ok (.i2l, 1) := by decide +kernel
theorem dX10_weight_38 : decode cX10_weight 38 = .ok (.lreturn, 1) := by decide +kernel
theorem dX10_middleOf_0 : decode cX10_middleOf 0 = .ok (.aload_n 0, 1) := by decide +kernel
theorem dX10_middleOf_1 : decode cX10_middleOf 1 = .ok (.getfield 18, 3) := by decide +kernel
theorem dX10_middleOf_4 : decode cX10_middleOf 4 = .ok (.getfield 216, 3) := by decide +kernel
theorem dX10_middleOf_7 : decode cX10_middleOf 7 = .ok (.iload_n 1, 1) := by decide +kernel
theorem dX10_middleOf_8 : decode cX10_middleOf 8 = .ok (.invokevirtual 226, 3) := by decide +kernel
theorem dX10_middleOf_11 : decode cX10_middleOf 11 = .ok (.ifCond .ne 5, 3) := by decide +kernel
theorem dX10_middleOf_14 : decode cX10_middleOf 14 = .ok (.iconst (-1), 1) := by decide +kernel
theorem dX10_middleOf_15 : decode cX10_middleOf 15 = .ok (.ireturn, 1) := by decide +kernel
theorem dX10_middleOf_16 : decode cX10_middleOf 16 = .ok (.aload_n 0, 1) := by decide +kernel
theorem dX10_middleOf_17 : decode cX10_middleOf 17 = .ok (.getfield 26, 3) := by decide +kernel
theorem dX10_middleOf_20 : decode cX10_middleOf 20 = .ok (.aload_n 0, 1) := by decide +kernel
theorem dX10_middleOf_21 : decode cX10_middleOf 21 = .ok (.getfield 18, 3) := by decide +kernel
theorem dX10_middleOf_24 : decode cX10_middleOf 24 = .ok (.invokevirtual 252, 3) := by decide +kernel
theorem dX10_middleOf_27 : decode cX10_middleOf 27 = .ok (.aload_n 0, 1) := by decide +kernel
theorem dX10_middleOf_28 : decode cX10_middleOf 28 = .ok (.getfield 26, 3) := by decide +kernel
theorem dX10_middleOf_31 : decode cX10_middleOf 31 = .ok (.iload_n 1, 1) := by decide +kernel
theorem dX10_middleOf_32 : decode cX10_middleOf 32 = .ok (.invokevirtual 258, 3) := by decide +kernel
theorem dX10_middleOf_35 : decode cX10_middleOf 35 = .ok (.ireturn, 1) := by decide +kernel
theorem dX10_lowOf_0 : decode cX10_lowOf 0 = .ok (.iload_n 1, 1) := by decide +kernel
theorem dX10_lowOf_1 : decode cX10_lowOf 1 = .ok (.invokestatic 94, 3) := by decide +kernel
theorem dX10_lowOf_4 : decode cX10_lowOf 4 = .ok (.ifCond .ne 5, 3) := by decide +kernel
theorem dX10_lowOf_7 : decode cX10_lowOf 7 = .ok (.iconst (-1), 1) := by decide +kernel
theorem dX10_lowOf_8 : decode cX10_lowOf 8 = .ok (.ireturn, 1) := by decide +kernel
theorem dX10_lowOf_9 : decode cX10_lowOf 9 = .ok (.aload_n 0, 1) := by decide +kernel
theorem dX10_lowOf_10 : decode cX10_lowOf 10 = .ok (.getfield 18, 3) := by decide +kernel
theorem dX10_lowOf_13 : decode cX10_lowOf 13 = .ok (.getfield 216, 3) := by decide +kernel
theorem dX10_lowOf_16 : decode cX10_lowOf 16 = .ok (.getfield 229, 3) := by decide +kernel
theorem dX10_lowOf_19 : decode cX10_lowOf 19 = .ok (.aload_n 0, 1) := by decide +kernel
theorem dX10_lowOf_20 : decode cX10_lowOf 20 = .ok (.getfield 18, 3) := by decide +kernel
theorem dX10_lowOf_23 : decode cX10_lowOf 23 = .ok (.getfield 216, 3) := by decide +kernel
theorem dX10_lowOf_26 : decode cX10_lowOf 26 = .ok (.iload_n 1, 1) := by decide +kernel
theorem dX10_lowOf_27 : decode cX10_lowOf 27 = .ok (.invokevirtual 261, 3) := by decide +kernel
theorem dX10_lowOf_30 : decode cX10_lowOf 30 = .ok (.iaload, 1) := by decide +kernel
theorem dX10_lowOf_31 : decode cX10_lowOf 31 = .ok (.ireturn, 1) := by decide +kernel
theorem dX10_server_0 : decode cX10_server 0 = .ok (.iload_n 1, 1) := by decide +kernel
theorem dX10_server_1 : decode cX10_server 1 = .ok (.invokestatic 264, 3) := by decide +kernel
theorem dX10_server_4 : decode cX10_server 4 = .ok (.ifCond .ne 5, 3) := by decide +kernel
theorem dX10_server_7 : decode cX10_server 7 = .ok (.iconst (-1), 1) := by decide +kernel
theorem dX10_server_8 : decode cX10_server 8 = .ok (.ireturn, 1) := by decide +kernel
theorem dX10_server_9 : decode cX10_server 9 = .ok (.iload_n 2, 1) := by decide +kernel
theorem dX10_server_10 : decode cX10_server 10 = .ok (.tableswitch 94 0 4 #[34, 51, 63, 76, 85], 34) := by decide +kernel
theorem dX10_server_44 : decode cX10_server 44 = .ok (.aload_n 0, 1) := by decide +kernel
theorem dX10_server_45 : decode cX10_server 45 = .ok (.getfield 18, 3) := by decide +kernel
theorem dX10_server_48 : decode cX10_server 48 = .ok (.iload_n 1, 1) := by decide +kernel
theorem dX10_server_49 : decode cX10_server 49 = .ok (.invokevirtual 267, 3) := by decide +kernel
theorem dX10_server_52 : decode cX10_server 52 = .ok (.ifCond .eq 7, 3) := by decide +kernel
theorem dX10_server_55 : decode cX10_server 55 = .ok (.iconst 1, 1) := by decide +kernel
theorem dX10_server_56 : decode cX10_server 56 = .ok (.goto 4, 3) := by decide +kernel
theorem dX10_server_59 : decode cX10_server 59 = .ok (.iconst 0, 1) := by decide +kernel
theorem dX10_server_60 : decode cX10_server 60 = .ok (.ireturn, 1) := by decide +kernel
theorem dX10_server_61 : decode cX10_server 61 = .ok (.aload_n 0, 1) := by decide +kernel
theorem dX10_server_62 : decode cX10_server 62 = .ok (.getfield 18, 3) := by decide +kernel
theorem dX10_server_65 : decode cX10_server 65 = .ok (.getfield 216, 3) := by decide +kernel
theorem dX10_server_68 : decode cX10_server 68 = .ok (.iload_n 1, 1) := by decide +kernel
theorem dX10_server_69 : decode cX10_server 69 = .ok (.invokevirtual 270, 3) := by decide +kernel
theorem dX10_server_72 : decode cX10_server 72 = .ok (.ireturn, 1) := by decide +kernel
theorem dX10_server_73 : decode cX10_server 73 = .ok (.aload_n 0, 1) := by decide +kernel
theorem dX10_server_74 : decode cX10_server 74 = .ok (.getfield 18, 3) := by decide +kernel
theorem dX10_server_77 : decode cX10_server 77 = .ok (.iload_n 1, 1) := by decide +kernel
theorem dX10_server_78 : decode cX10_server 78 = .ok (.iconst 0, 1) := by decide +kernel
theorem dX10_server_79 : decode cX10_server 79 = .ok (.sipush 1000, 3) := by decide +kernel
theorem dX10_server_82 : decode cX10_server 82 = .ok (.invokevirtual 247, 3) := by decide +kernel
theorem dX10_server_85 : decode cX10_server 85 = .ok (.ireturn, 1) := by decide +kernel
theorem dX10_server_86 : decode cX10_server 86 = .ok (.aload_n 0, 1) := by decide +kernel
theorem dX10_server_87 : decode cX10_server 87 = .ok (.getfield 18, 3) := by decide +kernel
theorem dX10_server_90 : decode cX10_server 90 = .ok (.iload_n 1, 1) := by decide +kernel
theorem dX10_server_91 : decode cX10_server 91 = .ok (.invokevirtual 273, 3) := by decide +kernel
theorem dX10_server_94 : decode cX10_server 94 = .ok (.ireturn, 1) := by decide +kernel
theorem dX10_server_95 : decode cX10_server 95 = .ok (.aload_n 0, 1) := by decide +kernel
theorem dX10_server_96 : decode cX10_server 96 = .ok (.getfield 18, 3) := by decide +kernel
theorem dX10_server_99 : decode cX10_server 99 = .ok (.iload_n 1, 1) := by decide +kernel
theorem dX10_server_100 : decode cX10_server 100 = .ok (.invokevirtual 276, 3) := by decide +kernel
theorem dX10_server_103 : decode cX10_server 103 = .ok (.ireturn, 1) := by decide +kernel
theorem dX10_server_104 : decode cX10_server 104 = .ok (.iconst (-1), 1) := by decide +kernel
theorem dX10_server_105 : decode cX10_server 105 = .ok (.ireturn, 1) := by decide +kernel
theorem dX10_load_0 : decode cX10_load 0 = .ok (.iload_n 1, 1) := by decide +kernel
theorem dX10_load_1 : decode cX10_load 1 = .ok (.invokestatic 264, 3) := by decide +kernel
theorem dX10_load_4 : decode cX10_load 4 = .ok (.ifCond .ne 7, 3) := by decide +kernel
theorem dX10_load_7 : decode cX10_load 7 = .ok (.ldc2_w 250, 3) := by decide +kernel
theorem dX10_load_10 : decode cX10_load 10 = .ok (.lreturn, 1) := by decide +kernel
theorem dX10_load_11 : decode cX10_load 11 = .ok (.aload_n 0, 1) := by decide +kernel
theorem dX10_load_12 : decode cX10_load 12 = .ok (.getfield 26, 3) := by decide +kernel
theorem dX10_load_15 : decode cX10_load 15 = .ok (.aload_n 0, 1) := by decide +kernel
theorem dX10_load_16 : decode cX10_load 16 = .ok (.getfield 18, 3) := by decide +kernel
theorem dX10_load_19 : decode cX10_load 19 = .ok (.invokevirtual 252, 3) := by decide +kernel
theorem dX10_load_22 : decode cX10_load 22 = .ok (.aload_n 0, 1) := by decide +kernel
theorem dX10_load_23 : decode cX10_load 23 = .ok (.getfield 26, 3) := by decide +kernel
theorem dX10_load_26 : decode cX10_load 26 = .ok (.getfield 279, 3) := by decide +kernel
theorem dX10_load_29 : decode cX10_load 29 = .ok (.iload_n 1, 1) := by decide +kernel
theorem dX10_load_30 : decode cX10_load 30 = .ok (.iaload, 1) := by decide +kernel
theorem dX10_load_31 : decode cX10_load 31 = .ok (.i2l, 1) := by decide +kernel
theorem dX10_load_32 : decode cX10_load 32 = .ok (.lreturn, 1) := by decide +kernel
theorem dX10_stored_0 : decode cX10_stored 0 = .ok (.iload_n 1, 1) := by decide +kernel
theorem dX10_stored_1 : decode cX10_stored 1 = .ok (.invokestatic 264, 3) := by decide +kernel
theorem dX10_stored_4 : decode cX10_stored 4 = .ok (.ifCond .eq 10, 3) := by decide +kernel
theorem dX10_stored_7 : decode cX10_stored 7 = .ok (.iload_n 2, 1) := by decide +kernel
theorem dX10_stored_8 : decode cX10_stored 8 = .ok (.invokestatic 94, 3) := by decide +kernel
theorem dX10_stored_11 : decode cX10_stored 11 = .ok (.ifCond .ne 5, 3) := by decide +kernel
theorem dX10_stored_14 : decode cX10_stored 14 = .ok (.iconst (-1), 1) := by decide +kernel
theorem dX10_stored_15 : decode cX10_stored 15 = .ok (.ireturn, 1) := by decide +kernel
theorem dX10_stored_16 : decode cX10_stored 16 = .ok (.aload_n 0, 1) := by decide +kernel
theorem dX10_stored_17 : decode cX10_stored 17 = .ok (.getfield 18, 3) := by decide +kernel
theorem dX10_stored_20 : decode cX10_stored 20 = .ok (.iload_n 1, 1) := by decide +kernel
theorem dX10_stored_21 : decode cX10_stored 21 = .ok (.iload_n 2, 1) := by decide +kernel
theorem dX10_stored_22 : decode cX10_stored 22 = .ok (.invokevirtual 282, 3) := by decide +kernel
theorem dX10_stored_25 : decode cX10_stored 25 = .ok (.ireturn, 1) := by decide +kernel
theorem dX10_moveOf_0 : decode cX10_moveOf 0 = .ok (.aload_n 0, 1) := by decide +kernel
theorem dX10_moveOf_1 : decode cX10_moveOf 1 = .ok (.getfield 18, 3) := by decide +kernel
theorem dX10_moveOf_4 : decode cX10_moveOf 4 = .ok (.iload_n 1, 1) := by decide +kernel
theorem dX10_moveOf_5 : decode cX10_moveOf 5 = .ok (.invokevirtual 285, 3) := by decide +kernel
theorem dX10_moveOf_8 : decode cX10_moveOf 8 = .ok (.ifCond .ne 5, 3) := by decide +kernel
theorem dX10_moveOf_11 : decode cX10_moveOf 11 = .ok (.iconst (-1), 1) := by decide +kernel
theorem dX10_moveOf_12 : decode cX10_moveOf 12 = .ok (.ireturn, 1) := by decide +kernel
theorem dX10_moveOf_13 : decode cX10_moveOf 13 = .ok (.aload_n 0, 1) := by decide +kernel
theorem dX10_moveOf_14 : decode cX10_moveOf 14 = .ok (.getfield 18, 3) := by decide +kernel
theorem dX10_moveOf_17 : decode cX10_moveOf 17 = .ok (.getfield 288, 3) := by decide +kernel
theorem dX10_moveOf_20 : decode cX10_moveOf 20 = .ok (.iload_n 1, 1) := by decide +kernel
theorem dX10_moveOf_21 : decode cX10_moveOf 21 = .ok (.aaload, 1) := by decide +kernel
theorem dX10_moveOf_22 : decode cX10_moveOf 22 = .ok (.astore_n 3, 1) := by decide +kernel
theorem dX10_moveOf_23 : decode cX10_moveOf 23 = .ok (.iload_n 2, 1) := by decide +kernel
theorem dX10_moveOf_24 : decode cX10_moveOf 24 = .ok (.tableswitch 132 0 11 #[64, 69, 74, 79, 84, 89, 94, 99, 112, 117, 122, 127], 64) := by decide +kernel
theorem dX10_moveOf_88 : decode cX10_moveOf 88 = .ok (.aload_n 3, 1) := by decide +kernel
theorem dX10_moveOf_89 : decode cX10_moveOf 89 = .ok (.getfield 292, 3) := by decide +kernel
theorem dX10_moveOf_92 : decode cX10_moveOf 92 = .ok (.ireturn, 1) := by decide +kernel
theorem dX10_moveOf_93 : decode cX10_moveOf 93 = .ok (.aload_n 3, 1) := by decide +kernel
theorem dX10_moveOf_94 : decode cX10_moveOf 94 = .ok (.getfield 297, 3) := by decide +kernel
theorem dX10_moveOf_97 : decode cX10_moveOf 97 = .ok (.ireturn, 1) := by decide +kernel
theorem dX10_moveOf_98 : decode cX10_moveOf 98 = .ok (.aload_n 3, 1) := by decide +kernel
theorem dX10_moveOf_99 : decode cX10_moveOf 99 = .ok (.getfield 300, 3) := by decide +kernel
theorem dX10_moveOf_102 : decode cX10_moveOf 102 = .ok (.ireturn, 1) := by decide +kernel
theorem dX10_moveOf_103 : decode cX10_moveOf 103 = .ok (.aload_n 3, 1) := by decide +kernel
theorem dX10_moveOf_104 : decode cX10_moveOf 104 = .ok (.getfield 303, 3) := by decide +kernel
theorem dX10_moveOf_107 : decode cX10_moveOf 107 = .ok (.ireturn, 1) := by decide +kernel
theorem dX10_moveOf_108 : decode cX10_moveOf 108 = .ok (.aload_n 3, 1) := by decide +kernel
theorem dX10_moveOf_109 : decode cX10_moveOf 109 = .ok (.getfield 306, 3) := by decide +kernel
theorem dX10_moveOf_112 : decode cX10_moveOf 112 = .ok (.ireturn, 1) := by decide +kernel
theorem dX10_moveOf_113 : decode cX10_moveOf 113 = .ok (.aload_n 3, 1) := by decide +kernel
theorem dX10_moveOf_114 : decode cX10_moveOf 114 = .ok (.getfield 309, 3) := by decide +kernel
theorem dX10_moveOf_117 : decode cX10_moveOf 117 = .ok (.ireturn, 1) := by decide +kernel
theorem dX10_moveOf_118 : decode cX10_moveOf 118 = .ok (.aload_n 3, 1) := by decide +kernel
theorem dX10_moveOf_119 : decode cX10_moveOf 119 = .ok (.getfield 312, 3) := by decide +kernel
theorem dX10_moveOf_122 : decode cX10_moveOf 122 = .ok (.ireturn, 1) := by decide +kernel
theorem dX10_moveOf_123 : decode cX10_moveOf 123 = .ok (.aload_n 3, 1) := by decide +kernel
theorem dX10_moveOf_124 : decode cX10_moveOf 124 = .ok (.getfield 315, 3) := by decide +kernel
theorem dX10_moveOf_127 : decode cX10_moveOf 127 = .ok (.ifCond .eq 7, 3) := by decide +kernel
theorem dX10_moveOf_130 : decode cX10_moveOf 130 = .ok (.iconst 1, 1) := by decide +kernel
theorem dX10_moveOf_131 : decode cX10_moveOf 131 = .ok (.goto 4, 3) := by decide +kernel
theorem dX10_moveOf_134 : decode cX10_moveOf 134 = .ok (.iconst 0, 1) := by decide +kernel
theorem dX10_moveOf_135 : decode cX10_moveOf 135 = .ok (.ireturn, 1) := by decide +kernel
theorem dX10_moveOf_136 : decode cX10_moveOf 136 = .ok (.aload_n 3, 1) := by decide +kernel
theorem dX10_moveOf_137 : decode cX10_moveOf 137 = .ok (.getfield 319, 3) := by decide +kernel
theorem dX10_moveOf_140 : decode cX10_moveOf 140 = .ok (.ireturn, 1) := by decide +kernel
theorem dX10_moveOf_141 : decode cX10_moveOf 141 = .ok (.aload_n 3, 1) := by decide +kernel
theorem dX10_moveOf_142 : decode cX10_moveOf 142 = .ok (.getfield 322, 3) := by decide +kernel
theorem dX10_moveOf_145 : decode cX10_moveOf 145 = .ok (.ireturn, 1) := by decide +kernel
theorem dX10_moveOf_146 : decode cX10_moveOf 146 = .ok (.aload_n 3, 1) := by decide +kernel
theorem dX10_moveOf_147 : decode cX10_moveOf 147 = .ok (.getfield 325, 3) := by decide +kernel
theorem dX10_moveOf_150 : decode cX10_moveOf 150 = .ok (.ireturn, 1) := by decide +kernel
theorem dX10_moveOf_151 : decode cX10_moveOf 151 = .ok (.aload_n 3, 1) := by decide +kernel
theorem dX10_moveOf_152 : decode cX10_moveOf 152 = .ok (.getfield 328, 3) := by decide +kernel
theorem dX10_moveOf_155 : decode cX10_moveOf 155 = .ok (.ireturn, 1) := by decide +kernel
theorem dX10_moveOf_156 : decode cX10_moveOf 156 = .ok (.iconst (-1), 1) := by decide +kernel
theorem dX10_moveOf_157 : decode cX10_moveOf 157 = .ok (.ireturn, 1) := by decide +kernel
theorem dX10_trail_0 : decode cX10_trail 0 = .ok (.aload_n 0, 1) := by decide +kernel
theorem dX10_trail_1 : decode cX10_trail 1 = .ok (.getfield 18, 3) := by decide +kernel
theorem dX10_trail_4 : decode cX10_trail 4 = .ok (.iload_n 1, 1) := by decide +kernel
theorem dX10_trail_5 : decode cX10_trail 5 = .ok (.invokevirtual 285, 3) := by decide +kernel
theorem dX10_trail_8 : decode cX10_trail 8 = .ok (.ifCond .ne 5, 3) := by decide +kernel
theorem dX10_trail_11 : decode cX10_trail 11 = .ok (.iconst (-1), 1) := by decide +kernel
theorem dX10_trail_12 : decode cX10_trail 12 = .ok (.ireturn, 1) := by decide +kernel
theorem dX10_trail_13 : decode cX10_trail 13 = .ok (.aload_n 0, 1) := by decide +kernel
theorem dX10_trail_14 : decode cX10_trail 14 = .ok (.getfield 18, 3) := by decide +kernel
theorem dX10_trail_17 : decode cX10_trail 17 = .ok (.getfield 288, 3) := by decide +kernel
theorem dX10_trail_20 : decode cX10_trail 20 = .ok (.iload_n 1, 1) := by decide +kernel
theorem dX10_trail_21 : decode cX10_trail 21 = .ok (.aaload, 1) := by decide +kernel
theorem dX10_trail_22 : decode cX10_trail 22 = .ok (.astore_n 3, 1) := by decide +kernel
theorem dX10_trail_23 : decode cX10_trail 23 = .ok (.iload_n 2, 1) := by decide +kernel
theorem dX10_trail_24 : decode cX10_trail 24 = .ok (.ifCond .lt 11, 3) := by decide +kernel
theorem dX10_trail_27 : decode cX10_trail 27 = .ok (.iload_n 2, 1) := by decide +kernel
theorem dX10_trail_28 : decode cX10_trail 28 = .ok (.aload_n 3, 1) := by decide +kernel
theorem dX10_trail_29 : decode cX10_trail 29 = .ok (.getfield 312, 3) := by decide +kernel
theorem dX10_trail_32 : decode cX10_trail 32 = .ok (.if_icmp .lt 5, 3) := by decide +kernel
theorem dX10_trail_35 : decode cX10_trail 35 = .ok (.iconst (-1), 1) := by decide +kernel
theorem dX10_trail_36 : decode cX10_trail 36 = .ok (.ireturn, 1) := by decide +kernel
theorem dX10_trail_37 : decode cX10_trail 37 = .ok (.aload_n 3, 1) := by decide +kernel
theorem dX10_trail_38 : decode cX10_trail 38 = .ok (.getfield 329, 3) := by decide +kernel
theorem dX10_trail_41 : decode cX10_trail 41 = .ok (.iload_n 2, 1) := by decide +kernel
theorem dX10_trail_42 : decode cX10_trail 42 = .ok (.iaload, 1) := by decide +kernel
theorem dX10_trail_43 : decode cX10_trail 43 = .ok (.ireturn, 1) := by decide +kernel
theorem dX10_owned_0 : decode cX10_owned 0 = .ok (.iload_n 1, 1) := by decide +kernel
theorem dX10_owned_1 : decode cX10_owned 1 = .ok (.iconst 1, 1) := by decide +kernel
theorem dX10_owned_2 : decode cX10_owned 2 = .ok (.if_icmp .lt 24, 3) := by decide +kernel
theorem dX10_owned_5 : decode cX10_owned 5 = .ok (.iload_n 1, 1) := by decide +kernel
theorem dX10_owned_6 : decode cX10_owned 6 = .ok (.aload_n 0, 1) := by decide +kernel
theorem dX10_owned_7 : decode cX10_owned 7 = .ok (.getfield 18, 3) := by decide +kernel
theorem dX10_owned_10 : decode cX10_owned 10 = .ok (.getfield 216, 3) := by decide +kernel
theorem dX10_owned_13 : decode cX10_owned 13 = .ok (.getfield 105, 3) := by decide +kernel
theorem dX10_owned_16 : decode cX10_owned 16 = .ok (.if_icmp .gt 10, 3) := by decide +kernel
theorem dX10_owned_19 : decode cX10_owned 19 = .ok (.iload_n 2, 1) := by decide +kernel
theorem dX10_owned_20 : decode cX10_owned 20 = .ok (.invokestatic 94, 3) := by decide +kernel
theorem dX10_owned_23 : decode cX10_owned 23 = .ok (.ifCond .ne 5, 3) := by decide +kernel
theorem dX10_owned_26 : decode cX10_owned 26 = .ok (.iconst (-1), 1) := by decide +kernel
theorem dX10_owned_27 : decode cX10_owned 27 = .ok (.ireturn, 1) := by decide +kernel
theorem dX10_owned_28 : decode cX10_owned 28 = .ok (.aload_n 0, 1) := by decide +kernel
theorem dX10_owned_29 : decode cX10_owned 29 = .ok (.getfield 18, 3) := by decide +kernel
theorem dX10_owned_32 : decode cX10_owned 32 = .ok (.iload_n 1, 1) := by decide +kernel
theorem dX10_owned_33 : decode cX10_owned 33 = .ok (.iload_n 2, 1) := by decide +kernel
theorem dX10_owned_34 : decode cX10_owned 34 = .ok (.invokevirtual 332, 3) := by decide +kernel
theorem dX10_owned_37 : decode cX10_owned 37 = .ok (.ireturn, 1) := by decide +kernel
theorem dX10_passed_0 : decode cX10_passed 0 = .ok (.iload_n 1, 1) := by decide +kernel
theorem dX10_passed_1 : decode cX10_passed 1 = .ok (.invokestatic 94, 3) := by decide +kernel
theorem dX10_passed_4 : decode cX10_passed 4 = .ok (.ifCond .eq 7, 3) := by decide +kernel
theorem dX10_passed_7 : decode cX10_passed 7 = .ok (.iload_n 2, 1) := by decide +kernel
theorem dX10_passed_8 : decode cX10_passed 8 = .ok (.ifCond .ge 5, 3) := by decide +kernel
theorem dX10_passed_11 : decode cX10_passed 11 = .ok (.iconst (-1), 1) := by decide +kernel
theorem dX10_passed_12 : decode cX10_passed 12 = .ok (.ireturn, 1) := by decide +kernel
theorem dX10_passed_13 : decode cX10_passed 13 = .ok (.aload_n 0, 1) := by decide +kernel
theorem dX10_passed_14 : decode cX10_passed 14 = .ok (.getfield 18, 3) := by decide +kernel
theorem dX10_passed_17 : decode cX10_passed 17 = .ok (.iload_n 1, 1) := by decide +kernel
theorem dX10_passed_18 : decode cX10_passed 18 = .ok (.iload_n 2, 1) := by decide +kernel
theorem dX10_passed_19 : decode cX10_passed 19 = .ok (.invokevirtual 335, 3) := by decide +kernel
theorem dX10_passed_22 : decode cX10_passed 22 = .ok (.ireturn, 1) := by decide +kernel
theorem dX10_changeOf_0 : decode cX10_changeOf 0 = .ok (.iload_n 1, 1) := by decide +kernel
theorem dX10_changeOf_1 : decode cX10_changeOf 1 = .ok (.iconst 1, 1) := by decide +kernel
theorem dX10_changeOf_2 : decode cX10_changeOf 2 = .ok (.if_icmp .lt 24, 3) := by decide +kernel
theorem dX10_changeOf_5 : decode cX10_changeOf 5 = .ok (.iload_n 1, 1) := by decide +kernel
theorem dX10_changeOf_6 : decode cX10_changeOf 6 = .ok (.aload_n 0, 1) := by decide +kernel
theorem dX10_changeOf_7 : decode cX10_changeOf 7 = .ok (.getfield 18, 3) := by decide +kernel
theorem dX10_changeOf_10 : decode cX10_changeOf 10 = .ok (.getfield 216, 3) := by decide +kernel
theorem dX10_changeOf_13 : decode cX10_changeOf 13 = .ok (.getfield 105, 3) := by decide +kernel
theorem dX10_changeOf_16 : decode cX10_changeOf 16 = .ok (.if_icmp .gt 10, 3) := by decide +kernel
theorem dX10_changeOf_19 : decode cX10_changeOf 19 = .ok (.iload_n 1, 1) := by decide +kernel
theorem dX10_changeOf_20 : decode cX10_changeOf 20 = .ok (.sipush 2048, 3) := by decide +kernel
theorem dX10_changeOf_23 : decode cX10_changeOf 23 = .ok (.if_icmp .lt 5, 3) := by decide +kernel
theorem dX10_changeOf_26 : decode cX10_changeOf 26 = .ok (.iconst (-1), 1) := by decide +kernel
theorem dX10_changeOf_27 : decode cX10_changeOf 27 = .ok (.ireturn, 1) := by decide +kernel
theorem dX10_changeOf_28 : decode cX10_changeOf 28 = .ok (.aload_n 0, 1) := by decide +kernel
theorem dX10_changeOf_29 : decode cX10_changeOf 29 = .ok (.getfield 22, 3) := by decide +kernel
theorem dX10_changeOf_32 : decode cX10_changeOf 32 = .ok (.iload_n 1, 1) := by decide +kernel
theorem dX10_changeOf_33 : decode cX10_changeOf 33 = .ok (.invokevirtual 338, 3) := by decide +kernel
theorem dX10_changeOf_36 : decode cX10_changeOf 36 = .ok (.istore_n 3, 1) := by decide +kernel
theorem dX10_changeOf_37 : decode cX10_changeOf 37 = .ok (.iload_n 2, 1) := by decide +kernel
theorem dX10_changeOf_38 : decode cX10_changeOf 38 = .ok (.tableswitch 62 0 2 #[26, 28, 45], 26) := by decide +kernel
theorem dX10_changeOf_64 : decode cX10_changeOf 64 = .ok (.iload_n 3, 1) := by decide +kernel
theorem dX10_changeOf_65 : decode cX10_changeOf 65 = .ok (.ireturn, 1) := by decide +kernel
theorem dX10_changeOf_66 : decode cX10_changeOf 66 = .ok (.iload_n 3, 1) := by decide +kernel
theorem dX10_changeOf_67 : decode cX10_changeOf 67 = .ok (.ifCond .ne 7, 3) := by decide +kernel
theorem dX10_changeOf_70 : decode cX10_changeOf 70 = .ok (.iconst (-1), 1) := by decide +kernel
theorem dX10_changeOf_71 : decode cX10_changeOf 71 = .ok (.goto 11, 3) := by decide +kernel
theorem dX10_changeOf_74 : decode cX10_changeOf 74 = .ok (.aload_n 0, 1) := by decide +kernel
theorem dX10_changeOf_75 : decode cX10_changeOf 75 = .ok (.getfield 22, 3) := by decide +kernel
theorem dX10_changeOf_78 : decode cX10_changeOf 78 = .ok (.iload_n 1, 1) := by decide +kernel
theorem dX10_changeOf_79 : decode cX10_changeOf 79 = .ok (.invokevirtual 341, 3) := by decide +kernel
theorem dX10_changeOf_82 : decode cX10_changeOf 82 = .ok (.ireturn, 1) := by decide +kernel
theorem dX10_changeOf_83 : decode cX10_changeOf 83 = .ok (.iload_n 3, 1) := by decide +kernel
theorem dX10_changeOf_84 : decode cX10_changeOf 84 = .ok (.ifCond .ne 7, 3) := by decide +kernel
theorem dX10_changeOf_87 : decode cX10_changeOf 87 = .ok (.iconst (-1), 1) := by decide +kernel
theorem dX10_changeOf_88 : decode cX10_changeOf 88 = .ok (.goto 11, 3) := by decide +kernel
theorem dX10_changeOf_91 : decode cX10_changeOf 91 = .ok (.aload_n 0, 1) := by decide +kernel
theorem dX10_changeOf_92 : decode cX10_changeOf 92 = .ok (.getfield 22, 3) := by decide +kernel
theorem dX10_changeOf_95 : decode cX10_changeOf 95 = .ok (.iload_n 1, 1) := by decide +kernel
theorem dX10_changeOf_96 : decode cX10_changeOf 96 = .ok (.invokevirtual 344, 3) := by decide +kernel
theorem dX10_changeOf_99 : decode cX10_changeOf 99 = .ok (.ireturn, 1) := by decide +kernel
theorem dX10_changeOf_100 : decode cX10_changeOf 100 = .ok (.iconst (-1), 1) := by decide +kernel
theorem dX10_changeOf_101 : decode cX10_changeOf 101 = .ok (.ireturn, 1) := by decide +kernel
theorem dX10_count_0 : decode cX10_count 0 = .ok (.iload_n 1, 1) := by decide +kernel
theorem dX10_count_1 : decode cX10_count 1 = .ok (.ifCond .lt 9, 3) := by decide +kernel
theorem dX10_count_4 : decode cX10_count 4 = .ok (.iload_n 1, 1) := by decide +kernel
theorem dX10_count_5 : decode cX10_count 5 = .ok (.bipush 15, 2) := by decide +kernel
theorem dX10_count_7 : decode cX10_count 7 = .ok (.if_icmp .lt 5, 3) := by decide +kernel
theorem dX10_count_10 : decode cX10_count 10 = .ok (.iconst (-1), 1) := by decide +kernel
theorem dX10_count_11 : decode cX10_count 11 = .ok (.ireturn, 1) := by decide +kernel
theorem dX10_count_12 : decode cX10_count 12 = .ok (.aload_n 0, 1) := by decide +kernel
theorem dX10_count_13 : decode cX10_count 13 = .ok (.getfield 22, 3) := by decide +kernel
theorem dX10_count_16 : decode cX10_count 16 = .ok (.getfield 347, 3) := by decide +kernel
theorem dX10_count_19 : decode cX10_count 19 = .ok (.iload_n 1, 1) := by decide +kernel
theorem dX10_count_20 : decode cX10_count 20 = .ok (.iaload, 1) := by decide +kernel
theorem dX10_count_21 : decode cX10_count 21 = .ok (.ireturn, 1) := by decide +kernel
theorem dX10_look_0 : decode cX10_look 0 = .ok (.iload_n 1, 1) := by decide +kernel
theorem dX10_look_1 : decode cX10_look 1 = .ok (.tableswitch 153 0 10 #[59, 70, 81, 89, 97, 105, 113, 121, 129, 137, 145], 59) := by decide +kernel
theorem dX10_look_60 : decode cX10_look 60 = .ok (.aload_n 0, 1) := by decide +kernel
theorem dX10_look_61 : decode cX10_look 61 = .ok (.getfield 18, 3) := by decide +kernel
theorem dX10_look_64 : decode cX10_look 64 = .ok (.getfield 216, 3) := by decide +kernel
theorem dX10_look_67 : decode cX10_look 67 = .ok (.getfield 105, 3) := by decide +kernel
theorem dX10_look_70 : decode cX10_look 70 = .ok (.ireturn, 1) := by decide +kernel
theorem dX10_look_71 : decode cX10_look 71 = .ok (.aload_n 0, 1) := by decide +kernel
theorem dX10_look_72 : decode cX10_look 72 = .ok (.getfield 18, 3) := by decide +kernel
theorem dX10_look_75 : decode cX10_look 75 = .ok (.getfield 216, 3) := by decide +kernel
theorem dX10_look_78 : decode cX10_look 78 = .ok (.getfield 223, 3) := by decide +kernel
theorem dX10_look_81 : decode cX10_look 81 = .ok (.ireturn, 1) := by decide +kernel
theorem dX10_look_82 : decode cX10_look 82 = .ok (.aload_n 0, 1) := by decide +kernel
theorem dX10_look_83 : decode cX10_look 83 = .ok (.getfield 18, 3) := by decide +kernel
theorem dX10_look_86 : decode cX10_look 86 = .ok (.getfield 350, 3) := by decide +kernel
theorem dX10_look_89 : decode cX10_look 89 = .ok (.ireturn, 1) := by decide +kernel
theorem dX10_look_90 : decode cX10_look 90 = .ok (.aload_n 0, 1) := by decide +kernel
theorem dX10_look_91 : decode cX10_look 91 = .ok (.getfield 18, 3) := by decide +kernel
theorem dX10_look_94 : decode cX10_look 94 = .ok (.getfield 353, 3) := by decide +kernel
theorem dX10_look_97 : decode cX10_look 97 = .ok (.ireturn, 1) := by decide +kernel
theorem dX10_look_98 : decode cX10_look 98 = .ok (.aload_n 0, 1) := by decide +kernel
theorem dX10_look_99 : decode cX10_look 99 = .ok (.getfield 18, 3) := by decide +kernel
theorem dX10_look_102 : decode cX10_look 102 = .ok (.invokevirtual 356, 3) := by decide +kernel
theorem dX10_look_105 : decode cX10_look 105 = .ok (.ireturn, 1) := by decide +kernel
theorem dX10_look_106 : decode cX10_look 106 = .ok (.aload_n 0, 1) := by decide +kernel
theorem dX10_look_107 : decode cX10_look 107 = .ok (.getfield 18, 3) := by decide +kernel
theorem dX10_look_110 : decode cX10_look 110 = .ok (.invokevirtual 360, 3) := by decide +kernel
theorem dX10_look_113 : decode cX10_look 113 = .ok (.ireturn, 1) := by decide +kernel
theorem dX10_look_114 : decode cX10_look 114 = .ok (.aload_n 0, 1) := by decide +kernel
theorem dX10_look_115 : decode cX10_look 115 = .ok (.getfield 18, 3) := by decide +kernel
theorem dX10_look_118 : decode cX10_look 118 = .ok (.getfield 363, 3) := by decide +kernel
theorem dX10_look_121 : decode cX10_look 121 = .ok (.ireturn, 1) := by decide +kernel
theorem dX10_look_122 : decode cX10_look 122 = .ok (.aload_n 0, 1) := by decide +kernel
theorem dX10_look_123 : decode cX10_look 123 = .ok (.getfield 58, 3) := by decide +kernel
theorem dX10_look_126 : decode cX10_look 126 = .ok (.getfield 207, 3) := by decide +kernel
theorem dX10_look_129 : decode cX10_look 129 = .ok (.ireturn, 1) := by decide +kernel
theorem dX10_look_130 : decode cX10_look 130 = .ok (.aload_n 0, 1) := by decide +kernel
theorem dX10_look_131 : decode cX10_look 131 = .ok (.getfield 65, 3) := by decide +kernel
theorem dX10_look_134 : decode cX10_look 134 = .ok (.getfield 174, 3) := by decide +kernel
theorem dX10_look_137 : decode cX10_look 137 = .ok (.ireturn, 1) := by decide +kernel
theorem dX10_look_138 : decode cX10_look 138 = .ok (.aload_n 0, 1) := by decide +kernel
theorem dX10_look_139 : decode cX10_look 139 = .ok (.getfield 18, 3) := by decide +kernel
theorem dX10_look_142 : decode cX10_look 142 = .ok (.invokevirtual 366, 3) := by decide +kernel
theorem dX10_look_145 : decode cX10_look 145 = .ok (.ireturn, 1) := by decide +kernel
theorem dX10_look_146 : decode cX10_look 146 = .ok (.aload_n 0, 1) := by decide +kernel
theorem dX10_look_147 : decode cX10_look 147 = .ok (.getfield 18, 3) := by decide +kernel
theorem dX10_look_150 : decode cX10_look 150 = .ok (.invokevirtual 369, 3) := by decide +kernel
theorem dX10_look_153 : decode cX10_look 153 = .ok (.ireturn, 1) := by decide +kernel
theorem dX10_look_154 : decode cX10_look 154 = .ok (.iconst (-1), 1) := by decide +kernel
theorem dX10_look_155 : decode cX10_look 155 = .ok (.ireturn, 1) := by decide +kernel
theorem dX10_sound_0 : decode cX10_sound 0 = .ok (.aload_n 0, 1) := by decide +kernel
theorem dX10_sound_1 : decode cX10_sound 1 = .ok (.getfield 18, 3) := by decide +kernel
theorem dX10_sound_4 : decode cX10_sound 4 = .ok (.invokevirtual 372, 3) := by decide +kernel
theorem dX10_sound_7 : decode cX10_sound 7 = .ok (.ifCond .eq 7, 3) := by decide +kernel
theorem dX10_sound_10 : decode cX10_sound 10 = .ok (.iconst 1, 1) := by decide +kernel
theorem dX10_sound_11 : decode cX10_sound 11 = .ok (.goto 4, 3) := by decide +kernel
theorem dX10_sound_14 : decode cX10_sound 14 = .ok (.iconst 0, 1) := by decide +kernel
theorem dX10_sound_15 : decode cX10_sound 15 = .ok (.ireturn, 1) := by decide +kernel
theorem dX10_spare_0 : decode cX10_spare 0 = .ok (.iconst 0, 1) := by decide +kernel
theorem dX10_spare_1 : decode cX10_spare 1 = .ok (.istore_n 1, 1) := by decide +kernel
theorem dX10_spare_2 : decode cX10_spare 2 = .ok (.iconst 0, 1) := by decide +kernel
theorem dX10_spare_3 : decode cX10_spare 3 = .ok (.istore_n 2, 1) := by decide +kernel
theorem dX10_spare_4 : decode cX10_spare 4 = .ok (.iload_n 2, 1) := by decide +kernel
theorem dX10_spare_5 : decode cX10_spare 5 = .ok (.bipush 6, 2) := by decide +kernel
theorem dX10_spare_7 : decode cX10_spare 7 = .ok (.if_icmp .ge 24, 3) := by decide +kernel
theorem dX10_spare_10 : decode cX10_spare 10 = .ok (.iload_n 1, 1) := by decide +kernel
theorem dX10_spare_11 : decode cX10_spare 11 = .ok (.aload_n 0, 1) := by decide +kernel
theorem dX10_spare_12 : decode cX10_spare 12 = .ok (.getfield 18, 3) := by decide +kernel
theorem dX10_spare_15 : decode cX10_spare 15 = .ok (.iload_n 2, 1) := by decide +kernel
theorem dX10_spare_16 : decode cX10_spare 16 = .ok (.iconst 0, 1) := by decide +kernel
theorem dX10_spare_17 : decode cX10_spare 17 = .ok (.sipush 1000, 3) := by decide +kernel
theorem dX10_spare_20 : decode cX10_spare 20 = .ok (.invokevirtual 247, 3) := by decide +kernel
theorem dX10_spare_23 : decode cX10_spare 23 = .ok (.iadd, 1) := by decide +kernel
theorem dX10_spare_24 : decode cX10_spare 24 = .ok (.istore_n 1, 1) := by decide +kernel
theorem dX10_spare_25 : decode cX10_spare 25 = .ok (.iinc 2 1, 3) := by decide +kernel
theorem dX10_spare_28 : decode cX10_spare 28 = .ok (.goto (-24), 3) := by decide +kernel
theorem dX10_spare_31 : decode cX10_spare 31 = .ok (.iload_n 1, 1) := by decide +kernel
theorem dX10_spare_32 : decode cX10_spare 32 = .ok (.aload_n 0, 1) := by decide +kernel
theorem dX10_spare_33 : decode cX10_spare 33 = .ok (.getfield 18, 3) := by decide +kernel
theorem dX10_spare_36 : decode cX10_spare 36 = .ok (.invokevirtual 366, 3) := by decide +kernel
theorem dX10_spare_39 : decode cX10_spare 39 = .ok (.isub, 1) := by decide +kernel
theorem dX10_spare_40 : decode cX10_spare 40 = .ok (.ireturn, 1) := by decide +kernel
theorem dX10_hot_0 : decode cX10_hot 0 = .ok (.iload_n 1, 1) := by decide +kernel
theorem dX10_hot_1 : decode cX10_hot 1 = .ok (.ifCond .lt 19, 3) := by decide +kernel
theorem dX10_hot_4 : decode cX10_hot 4 = .ok (.iload_n 1, 1) := by decide +kernel
theorem dX10_hot_5 : decode cX10_hot 5 = .ok (.sipush 1000, 3) := by decide +kernel
theorem dX10_hot_8 : decode cX10_hot 8 = .ok (.if_icmp .ge 12, 3) := by decide +kernel
theorem dX10_hot_11 : decode cX10_hot 11 = .ok (.iload_n 2, 1) := by decide +kernel
theorem dX10_hot_12 : decode cX10_hot 12 = .ok (.ifCond .lt 8, 3) := by decide +kernel
theorem dX10_hot_15 : decode cX10_hot 15 = .ok (.iload_n 2, 1) := by decide +kernel
theorem dX10_hot_16 : decode cX10_hot 16 = .ok (.iconst 1, 1) := by decide +kernel
theorem dX10_hot_17 : decode cX10_hot 17 = .ok (.if_icmp .le 5, 3) := by decide +kernel
theorem dX10_hot_20 : decode cX10_hot 20 = .ok (.iconst (-1), 1) := by decide +kernel
theorem dX10_hot_21 : decode cX10_hot 21 = .ok (.ireturn, 1) := by decide +kernel
theorem dX10_hot_22 : decode cX10_hot 22 = .ok (.aload_n 0, 1) := by decide +kernel
theorem dX10_hot_23 : decode cX10_hot 23 = .ok (.getfield 18, 3) := by decide +kernel
theorem dX10_hot_26 : decode cX10_hot 26 = .ok (.iload_n 1, 1) := by decide +kernel
theorem dX10_hot_27 : decode cX10_hot 27 = .ok (.invokevirtual 376, 3) := by decide +kernel
theorem dX10_hot_30 : decode cX10_hot 30 = .ok (.istore_n 3, 1) := by decide +kernel
theorem dX10_hot_31 : decode cX10_hot 31 = .ok (.iload_n 3, 1) := by decide +kernel
theorem dX10_hot_32 : decode cX10_hot 32 = .ok (.ifCond .ne 5, 3) := by decide +kernel
theorem dX10_hot_35 : decode cX10_hot 35 = .ok (.iconst (-1), 1) := by decide +kernel
theorem dX10_hot_36 : decode cX10_hot 36 = .ok (.ireturn, 1) := by decide +kernel
theorem dX10_hot_37 : decode cX10_hot 37 = .ok (.iload_n 2, 1) := by decide +kernel
theorem dX10_hot_38 : decode cX10_hot 38 = .ok (.iconst 1, 1) := by decide +kernel
theorem dX10_hot_39 : decode cX10_hot 39 = .ok (.if_icmp .ne 5, 3) := by decide +kernel
theorem dX10_hot_42 : decode cX10_hot 42 = .ok (.iload_n 3, 1) := by decide +kernel
theorem dX10_hot_43 : decode cX10_hot 43 = .ok (.ireturn, 1) := by decide +kernel
theorem dX10_hot_44 : decode cX10_hot 44 = .ok (.aload_n 0, 1) := by decide +kernel
theorem dX10_hot_45 : decode cX10_hot 45 = .ok (.getfield 18, 3) := by decide +kernel
theorem dX10_hot_48 : decode cX10_hot 48 = .ok (.iload_n 3, 1) := by decide +kernel
theorem dX10_hot_49 : decode cX10_hot 49 = .ok (.iload_n 1, 1) := by decide +kernel
theorem dX10_hot_50 : decode cX10_hot 50 = .ok (.aload_n 0, 1) := by decide +kernel
theorem dX10_hot_51 : decode cX10_hot 51 = .ok (.getfield 18, 3) := by decide +kernel
theorem dX10_hot_54 : decode cX10_hot 54 = .ok (.iload_n 3, 1) := by decide +kernel
theorem dX10_hot_55 : decode cX10_hot 55 = .ok (.invokevirtual 379, 3) := by decide +kernel
theorem dX10_hot_58 : decode cX10_hot 58 = .ok (.isub, 1) := by decide +kernel
theorem dX10_hot_59 : decode cX10_hot 59 = .ok (.invokevirtual 382, 3) := by decide +kernel
theorem dX10_hot_62 : decode cX10_hot 62 = .ok (.ireturn, 1) := by decide +kernel
theorem dX10_cuts_0 : decode cX10_cuts 0 = .ok (.iload_n 1, 1) := by decide +kernel
theorem dX10_cuts_1 : decode cX10_cuts 1 = .ok (.ifCond .lt 10, 3) := by decide +kernel
theorem dX10_cuts_4 : decode cX10_cuts 4 = .ok (.iload_n 1, 1) := by decide +kernel
theorem dX10_cuts_5 : decode cX10_cuts 5 = .ok (.ldc_w 385, 3) := by decide +kernel
theorem dX10_cuts_8 : decode cX10_cuts 8 = .ok (.if_icmp .le 5, 3) := by decide +kernel
theorem dX10_cuts_11 : decode cX10_cuts 11 = .ok (.iconst (-1), 1) := by decide +kernel
theorem dX10_cuts_12 : decode cX10_cuts 12 = .ok (.ireturn, 1) := by decide +kernel
theorem dX10_cuts_13 : decode cX10_cuts 13 = .ok (.iconst 0, 1) := by decide +kernel
theorem dX10_cuts_14 : decode cX10_cuts 14 = .ok (.istore_n 2, 1) := by decide +kernel
theorem dX10_cuts_15 : decode cX10_cuts 15 = .ok (.iconst 0, 1) := by decide +kernel
theorem dX10_cuts_16 : decode cX10_cuts 16 = .ok (.istore_n 3, 1) := by decide +kernel
theorem dX10_cuts_17 : decode cX10_cuts 17 = .ok (.iload_n 3, 1) := by decide +kernel
theorem dX10_cuts_18 : decode cX10_cuts 18 = .ok (.aload_n 0, 1) := by decide +kernel
theorem dX10_cuts_19 : decode cX10_cuts 19 = .ok (.getfield 18, 3) := by decide +kernel
theorem dX10_cuts_22 : decode cX10_cuts 22 = .ok (.getfield 216, 3) := by decide +kernel
theorem dX10_cuts_25 : decode cX10_cuts 25 = .ok (.getfield 223, 3) := by decide +kernel
theorem dX10_cuts_28 : decode cX10_cuts 28 = .ok (.if_icmp .ge 43, 3) := by decide +kernel
theorem dX10_cuts_31 : decode cX10_cuts 31 = .ok (.iload_n 2, 1) := by decide +kernel
theorem dX10_cuts_32 : decode cX10_cuts 32 = .ok (.aload_n 0, 1) := by decide +kernel
theorem dX10_cuts_33 : decode cX10_cuts 33 = .ok (.getfield 18, 3) := by decide +kernel
theorem dX10_cuts_36 : decode cX10_cuts 36 = .ok (.aload_n 0, 1) := by decide +kernel
theorem dX10_cuts_37 : decode cX10_cuts 37 = .ok (.getfield 18, 3) := by decide +kernel
theorem dX10_cuts_40 : decode cX10_cuts 40 = .ok (.getfield 216, 3) := by decide +kernel
theorem dX10_cuts_43 : decode cX10_cuts 43 = .ok (.getfield 229, 3) := by decide +kernel
theorem dX10_cuts_46 : decode cX10_cuts 46 = .ok (.iload_n 3, 1) := by decide +kernel
theorem dX10_cuts_47 : decode cX10_cuts 47 = .ok (.iaload, 1) := by decide +kernel
theorem dX10_cuts_48 : decode cX10_cuts 48 = .ok (.aload_n 0, 1) := by decide +kernel
theorem dX10_cuts_49 : decode cX10_cuts 49 = .ok (.getfield 18, 3) := by decide +kernel
theorem dX10_cuts_52 : decode cX10_cuts 52 = .ok (.getfield 216, 3) := by decide +kernel
theorem dX10_cuts_55 : decode cX10_cuts 55 = .ok (.iload_n 3, 1) := by decide +kernel
theorem dX10_cuts_56 : decode cX10_cuts 56 = .ok (.invokevirtual 232, 3) := by decide +kernel
theorem dX10_cuts_59 : decode cX10_cuts 59 = .ok (.iload_n 1, 1) := by decide +kernel
theorem dX10_cuts_60 : decode cX10_cuts 60 = .ok (.invokevirtual 386, 3) := by decide +kernel
theorem dX10_cuts_63 : decode cX10_cuts 63 = .ok (.iadd, 1) := by decide +kernel
theorem dX10_cuts_64 : decode cX10_cuts 64 = .ok (.istore_n 2, 1) := by decide +kernel
theorem dX10_cuts_65 : decode cX10_cuts 65 = .ok (.iinc 3 1, 3) := by decide +kernel
theorem dX10_cuts_68 : decode cX10_cuts 68 = .ok (.goto (-51), 3) := by decide +kernel
theorem dX10_cuts_71 : decode cX10_cuts 71 = .ok (.iload_n 2, 1) := by decide +kernel
theorem dX10_cuts_72 : decode cX10_cuts 72 = .ok (.ireturn, 1) := by decide +kernel
theorem dX10_even_0 : decode cX10_even 0 = .ok (.aload_n 0, 1) := by decide +kernel
theorem dX10_even_1 : decode cX10_even 1 = .ok (.getfield 26, 3) := by decide +kernel
theorem dX10_even_4 : decode cX10_even 4 = .ok (.aload_n 0, 1) := by decide +kernel
theorem dX10_even_5 : decode cX10_even 5 = .ok (.getfield 18, 3) := by decide +kernel
theorem dX10_even_8 : decode cX10_even 8 = .ok (.invokevirtual 252, 3) := by decide +kernel
theorem dX10_even_11 : decode cX10_even 11 = .ok (.aload_n 0, 1) := by decide +kernel
theorem dX10_even_12 : decode cX10_even 12 = .ok (.getfield 26, 3) := by decide +kernel
theorem dX10_even_15 : decode cX10_even 15 = .ok (.iconst (-1), 1) := by decide +kernel
theorem dX10_even_16 : decode cX10_even 16 = .ok (.invokevirtual 389, 3) := by decide +kernel
theorem dX10_even_19 : decode cX10_even 19 = .ok (.i2l, 1) := by decide +kernel
theorem dX10_even_20 : decode cX10_even 20 = .ok (.lreturn, 1) := by decide +kernel
theorem dX10_next_0 : decode cX10_next 0 = .ok (.iload_n 1, 1) := by decide +kernel
theorem dX10_next_1 : decode cX10_next 1 = .ok (.ifCond .lt 8, 3) := by decide +kernel
theorem dX10_next_4 : decode cX10_next 4 = .ok (.iload_n 1, 1) := by decide +kernel
theorem dX10_next_5 : decode cX10_next 5 = .ok (.iconst 2, 1) := by decide +kernel
theorem dX10_next_6 : decode cX10_next 6 = .ok (.if_icmp .le 5, 3) := by decide +kernel
theorem dX10_next_9 : decode cX10_next 9 = .ok (.iconst (-1), 1) := by decide +kernel
theorem dX10_next_10 : decode cX10_next 10 = .ok (.ireturn, 1) := by decide +kernel
theorem dX10_next_11 : decode cX10_next 11 = .ok (.aload_n 0, 1) := by decide +kernel
theorem dX10_next_12 : decode cX10_next 12 = .ok (.getfield 26, 3) := by decide +kernel
theorem dX10_next_15 : decode cX10_next 15 = .ok (.aload_n 0, 1) := by decide +kernel
theorem dX10_next_16 : decode cX10_next 16 = .ok (.getfield 18, 3) := by decide +kernel
theorem dX10_next_19 : decode cX10_next 19 = .ok (.invokevirtual 252, 3) := by decide +kernel
theorem dX10_next_22 : decode cX10_next 22 = .ok (.aload_n 0, 1) := by decide +kernel
theorem dX10_next_23 : decode cX10_next 23 = .ok (.getfield 26, 3) := by decide +kernel
theorem dX10_next_26 : decode cX10_next 26 = .ok (.invokevirtual 392, 3) := by decide +kernel
theorem dX10_next_29 : decode cX10_next 29 = .ok (.iload_n 1, 1) := by decide +kernel
theorem dX10_next_30 : decode cX10_next 30 = .ok (.ifCond .ne 11, 3) := by decide +kernel
theorem dX10_next_33 : decode cX10_next 33 = .ok (.aload_n 0, 1) := by decide +kernel
theorem dX10_next_34 : decode cX10_next 34 = .ok (.getfield 26, 3) := by decide +kernel
theorem dX10_next_37 : decode cX10_next 37 = .ok (.getfield 395, 3) := by decide +kernel
theorem dX10_next_40 : decode cX10_next 40 = .ok (.ireturn, 1) := by decide +kernel
theorem dX10_next_41 : decode cX10_next 41 = .ok (.aload_n 0, 1) := by decide +kernel
theorem dX10_next_42 : decode cX10_next 42 = .ok (.getfield 26, 3) := by decide +kernel
theorem dX10_next_45 : decode cX10_next 45 = .ok (.getfield 395, 3) := by decide +kernel
theorem dX10_next_48 : decode cX10_next 48 = .ok (.ifCond .ne 5, 3) := by decide +kernel
theorem dX10_next_51 : decode cX10_next 51 = .ok (.iconst (-1), 1) := by decide +kernel
theorem dX10_next_52 : decode cX10_next 52 = .ok (.ireturn, 1) := by decide +kernel
theorem dX10_next_53 : decode cX10_next 53 = .ok (.iload_n 1, 1) := by decide +kernel
theorem dX10_next_54 : decode cX10_next 54 = .ok (.iconst 1, 1) := by decide +kernel
theorem dX10_next_55 : decode cX10_next 55 = .ok (.if_icmp .ne 21, 3) := by decide +kernel
theorem dX10_next_58 : decode cX10_next 58 = .ok (.aload_n 0, 1) := by decide +kernel
theorem dX10_next_59 : decode cX10_next 59 = .ok (.getfield 26, 3) := by decide +kernel
theorem dX10_next_62 : decode cX10_next 62 = .ok (.getfield 398, 3) := by decide +kernel
theorem dX10_next_65 : decode cX10_next 65 = .ok (.aload_n 0, 1) := by decide +kernel
theorem dX10_next_66 : decode cX10_next 66 = .ok (.getfield 26, 3) := by decide +kernel
theorem dX10_next_69 : decode cX10_next 69 = .ok (.getfield 399, 3) := by decide +kernel
theorem dX10_next_72 : decode cX10_next 72 = .ok (.iaload, 1) := by decide +kernel
theorem dX10_next_73 : decode cX10_next 73 = .ok (.goto 10, 3) := by decide +kernel
theorem dX10_next_76 : decode cX10_next 76 = .ok (.aload_n 0, 1) := by decide +kernel
theorem dX10_next_77 : decode cX10_next 77 = .ok (.getfield 26, 3) := by decide +kernel
theorem dX10_next_80 : decode cX10_next 80 = .ok (.getfield 402, 3) := by decide +kernel
theorem dX10_next_83 : decode cX10_next 83 = .ok (.ireturn, 1) := by decide +kernel
theorem dX10_rounds_0 : decode cX10_rounds 0 = .ok (.iload_n 1, 1) := by decide +kernel
theorem dX10_rounds_1 : decode cX10_rounds 1 = .ok (.ifCond .lt 10, 3) := by decide +kernel
theorem dX10_rounds_4 : decode cX10_rounds 4 = .ok (.iload_n 1, 1) := by decide +kernel
theorem dX10_rounds_5 : decode cX10_rounds 5 = .ok (.ldc_w 385, 3) := by decide +kernel
theorem dX10_rounds_8 : decode cX10_rounds 8 = .ok (.if_icmp .le 5, 3) := by decide +kernel
theorem dX10_rounds_11 : decode cX10_rounds 11 = .ok (.iconst (-1), 1) := by decide +kernel
theorem dX10_rounds_12 : decode cX10_rounds 12 = .ok (.ireturn, 1) := by decide +kernel
theorem dX10_rounds_13 : decode cX10_rounds 13 = .ok (.aload_n 0, 1) := by decide +kernel
theorem dX10_rounds_14 : decode cX10_rounds 14 = .ok (.getfield 26, 3) := by decide +kernel
theorem dX10_rounds_17 : decode cX10_rounds 17 = .ok (.aload_n 0, 1) := by decide +kernel
theorem dX10_rounds_18 : decode cX10_rounds 18 = .ok (.getfield 18, 3) := by decide +kernel
theorem dX10_rounds_21 : decode cX10_rounds 21 = .ok (.invokevirtual 252, 3) := by decide +kernel
theorem dX10_rounds_24 : decode cX10_rounds 24 = .ok (.iconst 0, 1) := by decide +kernel
theorem dX10_rounds_25 : decode cX10_rounds 25 = .ok (.istore_n 2, 1) := by decide +kernel
theorem dX10_rounds_26 : decode cX10_rounds 26 = .ok (.iload_n 2, 1) := by decide +kernel
theorem dX10_rounds_27 : decode cX10_rounds 27 = .ok (.bipush 40, 2) := by decide +kernel
theorem dX10_rounds_29 : decode cX10_rounds 29 = .ok (.if_icmp .gt 47, 3) := by decide +kernel
theorem dX10_rounds_32 : decode cX10_rounds 32 = .ok (.aload_n 0, 1) := by decide +kernel
theorem dX10_rounds_33 : decode cX10_rounds 33 = .ok (.getfield 26, 3) := by decide +kernel
theorem dX10_rounds_36 : decode cX10_rounds 36 = .ok (.invokevirtual 392, 3) := by decide +kernel
theorem dX10_rounds_39 : decode cX10_rounds 39 = .ok (.aload_n 0, 1) := by decide +kernel
theorem dX10_rounds_40 : decode cX10_rounds 40 = .ok (.getfield 26, 3) := by decide +kernel
theorem dX10_rounds_43 : decode cX10_rounds 43 = .ok (.getfield 395, 3) := by decide +kernel
theorem dX10_rounds_46 : decode cX10_rounds 46 = .ok (.ifCond .eq 15, 3) := by decide +kernel
theorem dX10_rounds_49 : decode cX10_rounds 49 = .ok (.aload_n 0, 1) := by decide +kernel
theorem dX10_rounds_50 : decode cX10_rounds 50 = .ok (.getfield 26, 3) := by decide +kernel
theorem dX10_rounds_53 : decode cX10_rounds 53 = .ok (.iconst (-1), 1) := by decide +kernel
theorem dX10_rounds_54 : decode cX10_rounds 54 = .ok (.invokevirtual 389, 3) := by decide +kernel
theorem dX10_rounds_57 : decode cX10_rounds 57 = .ok (.iload_n 1, 1) := by decide +kernel
theorem dX10_rounds_58 : decode cX10_rounds 58 = .ok (.if_icmp .gt 5, 3) := by decide +kernel
theorem dX10_rounds_61 : decode cX10_rounds 61 = .ok (.iload_n 2, 1) := by decide +kernel
theorem dX10_rounds_62 : decode cX10_rounds 62 = .ok (.ireturn, 1) := by decide +kernel
theorem dX10_rounds_63 : decode cX10_rounds 63 = .ok (.aload_n 0, 1) := by decide +kernel
theorem dX10_rounds_64 : decode cX10_rounds 64 = .ok (.getfield 26, 3) := by decide +kernel
theorem dX10_rounds_67 : decode cX10_rounds 67 = .ok (.invokevirtual 405, 3) := by decide +kernel
theorem dX10_rounds_70 : decode cX10_rounds 70 = .ok (.iinc 2 1, 3) := by decide +kernel
theorem dX10_rounds_73 : decode cX10_rounds 73 = .ok (.goto (-47), 3) := by decide +kernel
theorem dX10_rounds_76 : decode cX10_rounds 76 = .ok (.iconst (-1), 1) := by decide +kernel
theorem dX10_rounds_77 : decode cX10_rounds 77 = .ok (.ireturn, 1) := by decide +kernel
theorem dX10_emptied_0 : decode cX10_emptied 0 = .ok (.iload_n 1, 1) := by decide +kernel
theorem dX10_emptied_1 : decode cX10_emptied 1 = .ok (.invokestatic 264, 3) := by decide +kernel
theorem dX10_emptied_4 : decode cX10_emptied 4 = .ok (.ifCond .eq 12, 3) := by decide +kernel
theorem dX10_emptied_7 : decode cX10_emptied 7 = .ok (.iload_n 2, 1) := by decide +kernel
theorem dX10_emptied_8 : decode cX10_emptied 8 = .ok (.ifCond .lt 8, 3) := by decide +kernel
theorem dX10_emptied_11 : decode cX10_emptied 11 = .ok (.iload_n 2, 1) := by decide +kernel
theorem dX10_emptied_12 : decode cX10_emptied 12 = .ok (.iconst 2, 1) := by decide +kernel
theorem dX10_emptied_13 : decode cX10_emptied 13 = .ok (.if_icmp .le 7, 3) := by decide +kernel
theorem dX10_emptied_16 : decode cX10_emptied 16 = .ok (.ldc2_w 250, 3) := by decide +kernel
theorem dX10_emptied_19 : decode cX10_emptied 19 = .ok (.lreturn, 1) := by decide +kernel
theorem dX10_emptied_20 : decode cX10_emptied 20 = .ok (.aload_n 0, 1) := by decide +kernel
theorem dX10_emptied_21 : decode cX10_emptied 21 = .ok (.getfield 26, 3) := by decide +kernel
theorem dX10_emptied_24 : decode cX10_emptied 24 = .ok (.aload_n 0, 1) := by decide +kernel
theorem dX10_emptied_25 : decode cX10_emptied 25 = .ok (.getfield 18, 3) := by decide +kernel
theorem dX10_emptied_28 : decode cX10_emptied 28 = .ok (.invokevirtual 252, 3) := by decide +kernel
theorem dX10_emptied_31 : decode cX10_emptied 31 = .ok (.aload_n 0, 1) := by decide +kernel
theorem dX10_emptied_32 : decode cX10_emptied 32 = .ok (.getfield 26, 3) := by decide +kernel
theorem dX10_emptied_35 : decode cX10_emptied 35 = .ok (.iload_n 1, 1) := by decide +kernel
theorem dX10_emptied_36 : decode cX10_emptied 36 = .ok (.invokevirtual 408, 3) := by decide +kernel
theorem dX10_emptied_39 : decode cX10_emptied 39 = .ok (.iconst (-1), 1) := by decide +kernel
theorem dX10_emptied_40 : decode cX10_emptied 40 = .ok (.if_icmp .ne 7, 3) := by decide +kernel
theorem dX10_emptied_43 : decode cX10_emptied 43 = .ok (.ldc2_w 250, 3) := by decide +kernel
theorem dX10_emptied_46 : decode cX10_emptied 46 = .ok (.lreturn, 1) := by decide +kernel
theorem dX10_emptied_47 : decode cX10_emptied 47 = .ok (.iconst (-1), 1) := by decide +kernel
theorem dX10_emptied_48 : decode cX10_emptied 48 = .ok (.istore_n 3, 1) := by decide +kernel
theorem dX10_emptied_49 : decode cX10_emptied 49 = .ok (.iconst 0, 1) := by decide +kernel
theorem dX10_emptied_50 : decode cX10_emptied 50 = .ok (.istore 4, 2) := by decide +kernel
theorem dX10_emptied_52 : decode cX10_emptied 52 = .ok (.aload_n 0, 1) := by decide +kernel
theorem dX10_emptied_53 : decode cX10_emptied 53 = .ok (.getfield 26, 3) := by decide +kernel
theorem dX10_emptied_56 : decode cX10_emptied 56 = .ok (.iload_n 1, 1) := by decide +kernel
theorem dX10_emptied_57 : decode cX10_emptied 57 = .ok (.invokevirtual 411, 3) := by decide +kernel
theorem dX10_emptied_60 : decode cX10_emptied 60 = .ok (.istore 5, 2) := by decide +kernel
theorem dX10_emptied_62 : decode cX10_emptied 62 = .ok (.iload 5, 2) := by decide +kernel
theorem dX10_emptied_64 : decode cX10_emptied 64 = .ok (.iconst (-1), 1) := by decide +kernel
theorem dX10_emptied_65 : decode cX10_emptied 65 = .ok (.if_icmp .eq 55, 3) := by decide +kernel
theorem dX10_emptied_68 : decode cX10_emptied 68 = .ok (.iload 4, 2) := by decide +kernel
theorem dX10_emptied_70 : decode cX10_emptied 70 = .ok (.bipush 32, 2) := by decide +kernel
theorem dX10_emptied_72 : decode cX10_emptied 72 = .ok (.if_icmp .ge 48, 3) := by decide +kernel
theorem dX10_emptied_75 : decode cX10_emptied 75 = .ok (.aload_n 0, 1) := by decide +kernel
theorem dX10_emptied_76 : decode cX10_emptied 76 = .ok (.getfield 26, 3) := by decide +kernel
theorem dX10_emptied_79 : decode cX10_emptied 79 = .ok (.iload_n 1, 1) := by decide +kernel
theorem dX10_emptied_80 : decode cX10_emptied 80 = .ok (.invokevirtual 408, 3) := by decide +kernel
theorem dX10_emptied_83 : decode cX10_emptied 83 = .ok (.istore 6, 2) := by decide +kernel
theorem dX10_emptied_85 : decode cX10_emptied 85 = .ok (.iload 4, 2) := by decide +kernel
theorem dX10_emptied_87 : decode cX10_emptied 87 = .ok (.ifCond .ne 6, 3) := by decide +kernel
theorem dX10_emptied_90 : decode cX10_emptied 90 = .ok (.iload 6, 2) := by decide +kernel
theorem dX10_emptied_92 : decode cX10_emptied 92 = .ok (.istore_n 3, 1) := by decide +kernel
theorem dX10_emptied_93 : decode cX10_emptied 93 = .ok (.aload_n 0, 1) := by decide +kernel
theorem dX10_emptied_94 : decode cX10_emptied 94 = .ok (.getfield 26, 3) := by decide +kernel
theorem dX10_emptied_97 : decode cX10_emptied 97 = .ok (.iload 5, 2) := by decide +kernel
theorem dX10_emptied_99 : decode cX10_emptied 99 = .ok (.iload 6, 2) := by decide +kernel
theorem dX10_emptied_101 : decode cX10_emptied 101 = .ok (.invokevirtual 414, 3) := by decide +kernel
theorem dX10_emptied_104 : decode cX10_emptied 104 = .ok (.iinc 4 1, 3) := by decide +kernel
theorem dX10_emptied_107 : decode cX10_emptied 107 = .ok (.aload_n 0, 1) := by decide +kernel
theorem dX10_emptied_108 : decode cX10_emptied 108 = .ok (.getfield 26, 3) := by decide +kernel
theorem dX10_emptied_111 : decode cX10_emptied 111 = .ok (.iload_n 1, 1) := by decide +kernel
theorem dX10_emptied_112 : decode cX10_emptied 112 = .ok (.invokevirtual 411, 3) := by decide +kernel
theorem dX10_emptied_115 : decode cX10_emptied 115 = .ok (.istore 5, 2) := by decide +kernel
theorem dX10_emptied_117 : decode cX10_emptied 117 = .ok (.goto (-55), 3) := by decide +kernel
theorem dX10_emptied_120 : decode cX10_emptied 120 = .ok (.iload_n 2, 1) := by decide +kernel
theorem dX10_emptied_121 : decode cX10_emptied 121 = .ok (.lookupswitch 41 #[(0, 27), (1, 31)], 27) := by decide +kernel
theorem dX10_emptied_148 : decode cX10_emptied 148 = .ok (.iload 4, 2) := by decide +kernel
theorem dX10_emptied_150 : decode cX10_emptied 150 = .ok (.i2l, 1) := by decide +kernel
theorem dX10_emptied_151 : decode cX10_emptied 151 = .ok (.lreturn, 1) := by decide +kernel
theorem dX10_emptied_152 : decode cX10_emptied 152 = .ok (.aload_n 0, 1) := by decide +kernel
theorem dX10_emptied_153 : decode cX10_emptied 153 = .ok (.getfield 26, 3) := by decide +kernel
theorem dX10_emptied_156 : decode cX10_emptied 156 = .ok (.iload_n 1, 1) := by decide +kernel
theorem dX10_emptied_157 : decode cX10_emptied 157 = .ok (.invokevirtual 389, 3) := by decide +kernel
theorem dX10_emptied_160 : decode cX10_emptied 160 = .ok (.i2l, 1) := by decide +kernel
theorem dX10_emptied_161 : decode cX10_emptied 161 = .ok (.lreturn, 1) := by decide +kernel
theorem dX10_emptied_162 : decode cX10_emptied 162 = .ok (.iload_n 3, 1) := by decide +kernel
theorem dX10_emptied_163 : decode cX10_emptied 163 = .ok (.i2l, 1) := by decide +kernel
theorem dX10_emptied_164 : decode cX10_emptied 164 = .ok (.lreturn, 1) := by decide +kernel
theorem dX10_lasts_0 : decode cX10_lasts 0 = .ok (.aload_n 0, 1) := by decide +kernel
theorem dX10_lasts_1 : decode cX10_lasts 1 = .ok (.getfield 18, 3) := by decide +kernel
theorem dX10_lasts_4 : decode cX10_lasts 4 = .ok (.iload_n 1, 1) := by decide +kernel
theorem dX10_lasts_5 : decode cX10_lasts 5 = .ok (.invokevirtual 418, 3) := by decide +kernel
theorem dX10_lasts_8 : decode cX10_lasts 8 = .ok (.ifCond .ne 5, 3) := by decide +kernel
theorem dX10_lasts_11 : decode cX10_lasts 11 = .ok (.iconst (-1), 1) := by decide +kernel
theorem dX10_lasts_12 : decode cX10_lasts 12 = .ok (.ireturn, 1) := by decide +kernel
theorem dX10_lasts_13 : decode cX10_lasts 13 = .ok (.aload_n 0, 1) := by decide +kernel
theorem dX10_lasts_14 : decode cX10_lasts 14 = .ok (.getfield 51, 3) := by decide +kernel
theorem dX10_lasts_17 : decode cX10_lasts 17 = .ok (.aload_n 0, 1) := by decide +kernel
theorem dX10_lasts_18 : decode cX10_lasts 18 = .ok (.getfield 18, 3) := by decide +kernel
theorem dX10_lasts_21 : decode cX10_lasts 21 = .ok (.getfield 288, 3) := by decide +kernel
theorem dX10_lasts_24 : decode cX10_lasts 24 = .ok (.iload_n 1, 1) := by decide +kernel
theorem dX10_lasts_25 : decode cX10_lasts 25 = .ok (.aaload, 1) := by decide +kernel
theorem dX10_lasts_26 : decode cX10_lasts 26 = .ok (.invokevirtual 421, 3) := by decide +kernel
theorem dX10_lasts_29 : decode cX10_lasts 29 = .ok (.ireturn, 1) := by decide +kernel
theorem dX10_kept_0 : decode cX10_kept 0 = .ok (.iload_n 1, 1) := by decide +kernel
theorem dX10_kept_1 : decode cX10_kept 1 = .ok (.iconst (-1), 1) := by decide +kernel
theorem dX10_kept_2 : decode cX10_kept 2 = .ok (.if_icmp .eq 10, 3) := by decide +kernel
theorem dX10_kept_5 : decode cX10_kept 5 = .ok (.aload_n 0, 1) := by decide +kernel
theorem dX10_kept_6 : decode cX10_kept 6 = .ok (.getfield 58, 3) := by decide +kernel
theorem dX10_kept_9 : decode cX10_kept 9 = .ok (.invokevirtual 164, 3) := by decide +kernel
theorem dX10_kept_12 : decode cX10_kept 12 = .ok (.iload_n 1, 1) := by decide +kernel
theorem dX10_kept_13 : decode cX10_kept 13 = .ok (.ireturn, 1) := by decide +kernel
theorem dX10_takeImage_0 : decode cX10_takeImage 0 = .ok (.aload_n 0, 1) := by decide +kernel
theorem dX10_takeImage_1 : decode cX10_takeImage 1 = .ok (.getfield 69, 3) := by decide +kernel
theorem dX10_takeImage_4 : decode cX10_takeImage 4 = .ok (.ifnonnull 14, 3) := by decide +kernel
theorem dX10_takeImage_7 : decode cX10_takeImage 7 = .ok (.aload_n 0, 1) := by decide +kernel
theorem dX10_takeImage_8 : decode cX10_takeImage 8 = .ok (.new 9, 3) := by decide +kernel
theorem dX10_takeImage_11 : decode cX10_takeImage 11 = .ok (.dup, 1) := by decide +kernel
theorem dX10_takeImage_12 : decode cX10_takeImage 12 = .ok (.invokespecial 11, 3) := by decide +kernel
theorem dX10_takeImage_15 : decode cX10_takeImage 15 = .ok (.putfield 69, 3) := by decide +kernel
theorem dX10_takeImage_18 : decode cX10_takeImage 18 = .ok (.aload_n 0, 1) := by decide +kernel
theorem dX10_takeImage_19 : decode cX10_takeImage 19 = .ok (.getfield 72, 3) := by decide +kernel
theorem dX10_takeImage_22 : decode cX10_takeImage 22 = .ok (.ifnonnull 14, 3) := by decide +kernel
theorem dX10_takeImage_25 : decode cX10_takeImage 25 = .ok (.aload_n 0, 1) := by decide +kernel
theorem dX10_takeImage_26 : decode cX10_takeImage 26 = .ok (.new 12, 3) := by decide +kernel
theorem dX10_takeImage_29 : decode cX10_takeImage 29 = .ok (.dup, 1) := by decide +kernel
theorem dX10_takeImage_30 : decode cX10_takeImage 30 = .ok (.invokespecial 14, 3) := by decide +kernel
theorem dX10_takeImage_33 : decode cX10_takeImage 33 = .ok (.putfield 72, 3) := by decide +kernel
theorem dX10_takeImage_36 : decode cX10_takeImage 36 = .ok (.aload_n 0, 1) := by decide +kernel
theorem dX10_takeImage_37 : decode cX10_takeImage 37 = .ok (.getfield 69, 3) := by decide +kernel
theorem dX10_takeImage_40 : decode cX10_takeImage 40 = .ok (.aload_n 0, 1) := by decide +kernel
theorem dX10_takeImage_41 : decode cX10_takeImage 41 = .ok (.getfield 18, 3) := by decide +kernel
theorem dX10_takeImage_44 : decode cX10_takeImage 44 = .ok (.invokevirtual 213, 3) := by decide +kernel
theorem dX10_takeImage_47 : decode cX10_takeImage 47 = .ok (.aload_n 0, 1) := by decide +kernel
theorem dX10_takeImage_48 : decode cX10_takeImage 48 = .ok (.getfield 72, 3) := by decide +kernel
theorem dX10_takeImage_51 : decode cX10_takeImage 51 = .ok (.aload_n 0, 1) := by decide +kernel
theorem dX10_takeImage_52 : decode cX10_takeImage 52 = .ok (.getfield 22, 3) := by decide +kernel
theorem dX10_takeImage_55 : decode cX10_takeImage 55 = .ok (.aload_n 0, 1) := by decide +kernel
theorem dX10_takeImage_56 : decode cX10_takeImage 56 = .ok (.getfield 18, 3) := by decide +kernel
theorem dX10_takeImage_59 : decode cX10_takeImage 59 = .ok (.getfield 216, 3) := by decide +kernel
theorem dX10_takeImage_62 : decode cX10_takeImage 62 = .ok (.getfield 105, 3) := by decide +kernel
theorem dX10_takeImage_65 : decode cX10_takeImage 65 = .ok (.invokevirtual 220, 3) := by decide +kernel
theorem dX10_takeImage_68 : decode cX10_takeImage 68 = .ok (.return_, 1) := by decide +kernel
theorem dX10_runClause_0 : decode cX10_runClause 0 = .ok (.iload_n 1, 1) := by decide +kernel
theorem dX10_runClause_1 : decode cX10_runClause 1 = .ok (.tableswitch 315 0 14 #[75, 93, 111, 131, 150, 168, 186, 205, 224, 234, 252, 261, 279, 288, 306], 75) := by decide +kernel
theorem dX10_runClause_76 : decode cX10_runClause 76 = .ok (.aload_n 0, 1) := by decide +kernel
theorem dX10_runClause_77 : decode cX10_runClause 77 = .ok (.getfield 35, 3) := by decide +kernel
theorem dX10_runClause_80 : decode cX10_runClause 80 = .ok (.iload_n 2, 1) := by decide +kernel
theorem dX10_runClause_81 : decode cX10_runClause 81 = .ok (.invokevirtual 79, 3) := by decide +kernel
theorem dX10_runClause_84 : decode cX10_runClause 84 = .ok (.iconst (-1), 1) := by decide +kernel
theorem dX10_runClause_85 : decode cX10_runClause 85 = .ok (.if_icmp .eq 7, 3) := by decide +kernel
theorem dX10_runClause_88 : decode cX10_runClause 88 = .ok (.iconst 1, 1) := by decide +kernel
theorem dX10_runClause_89 : decode cX10_runClause 89 = .ok (.goto 4, 3) := by decide +kernel
theorem dX10_runClause_92 : decode cX10_runClause 92 = .ok (.iconst 0, 1) := by decide +kernel
theorem dX10_runClause_93 : decode cX10_runClause 93 = .ok (.ireturn, 1) := by decide +kernel
theorem dX10_runClause_94 : decode cX10_runClause 94 = .ok (.aload_n 0, 1) := by decide +kernel
theorem dX10_runClause_95 : decode cX10_runClause 95 = .ok (.getfield 35, 3) := by decide +kernel
theorem dX10_runClause_98 : decode cX10_runClause 98 = .ok (.iload_n 2, 1) := by decide +kernel
theorem dX10_runClause_99 : decode cX10_runClause 99 = .ok (.iload_n 3, 1) := by decide +kernel
theorem dX10_runClause_100 : decode cX10_runClause 100 = .ok (.invokevirtual 86, 3) := by decide +kernel
theorem dX10_runClause_103 : decode cX10_runClause 103 = .ok (.ifCond .lt 7, 3) := by decide +kernel
theorem dX10_runClause_106 : decode cX10_runClause 106 = .ok (.iconst 1, 1) := by decide +kernel
theorem dX10_runClause_107 : decode cX10_runClause 107 = .ok (.goto 4, 3) := by decide +kernel
theorem dX10_runClause_110 : decode cX10_runClause 110 = .ok (.iconst 0, 1) := by decide +kernel
theorem dX10_runClause_111 : decode cX10_runClause 111 = .ok (.ireturn, 1) := by decide +kernel
theorem dX10_runClause_112 : decode cX10_runClause 112 = .ok (.aload_n 0, 1) := by decide +kernel
theorem dX10_runClause_113 : decode cX10_runClause 113 = .ok (.getfield 35, 3) := by decide +kernel
theorem dX10_runClause_116 : decode cX10_runClause 116 = .ok (.iload_n 2, 1) := by decide +kernel
theorem dX10_runClause_117 : decode cX10_runClause 117 = .ok (.iload_n 3, 1) := by decide +kernel
theorem dX10_runClause_118 : decode cX10_runClause 118 = .ok (.iload 4, 2) := by decide +kernel
theorem dX10_runClause_120 : decode cX10_runClause 120 = .ok (.invokevirtual 90, 3) := by decide +kernel
theorem dX10_runClause_123 : decode cX10_runClause 123 = .ok (.ifCond .ne 7, 3) := by decide +kernel
theorem dX10_runClause_126 : decode cX10_runClause 126 = .ok (.iconst 1, 1) := by decide +kernel
theorem dX10_runClause_127 : decode cX10_runClause 127 = .ok (.goto 4, 3) := by decide +kernel
theorem dX10_runClause_130 : decode cX10_runClause 130 = .ok (.iconst 0, 1) := by decide +kernel
theorem dX10_runClause_131 : decode cX10_runClause 131 = .ok (.ireturn, 1) := by decide +kernel
theorem dX10_runClause_132 : decode cX10_runClause 132 = .ok (.aload_n 0, 1) := by decide +kernel
theorem dX10_runClause_133 : decode cX10_runClause 133 = .ok (.getfield 44, 3) := by decide +kernel
theorem dX10_runClause_136 : decode cX10_runClause 136 = .ok (.iload_n 2, 1) := by decide +kernel
theorem dX10_runClause_137 : decode cX10_runClause 137 = .ok (.iload_n 3, 1) := by decide +kernel
theorem dX10_runClause_138 : decode cX10_runClause 138 = .ok (.invokevirtual 130, 3) := by decide +kernel
theorem dX10_runClause_141 : decode cX10_runClause 141 = .ok (.iconst (-1), 1) := by decide +kernel
theorem dX10_runClause_142 : decode cX10_runClause 142 = .ok (.if_icmp .eq 7, 3) := by decide +kernel
theorem dX10_runClause_145 : decode cX10_runClause 145 = .ok (.iconst 1, 1) := by decide +kernel
theorem dX10_runClause_146 : decode cX10_runClause 146 = .ok (.goto 4, 3) := by decide +kernel
theorem dX10_runClause_149 : decode cX10_runClause 149 = .ok (.iconst 0, 1) := by decide +kernel
theorem dX10_runClause_150 : decode cX10_runClause 150 = .ok (.ireturn, 1) := by decide +kernel
theorem dX10_runClause_151 : decode cX10_runClause 151 = .ok (.aload_n 0, 1) := by decide +kernel
theorem dX10_runClause_152 : decode cX10_runClause 152 = .ok (.getfield 44, 3) := by decide +kernel
theorem dX10_runClause_155 : decode cX10_runClause 155 = .ok (.iload_n 2, 1) := by decide +kernel
theorem dX10_runClause_156 : decode cX10_runClause 156 = .ok (.invokevirtual 136, 3) := by decide +kernel
theorem dX10_runClause_159 : decode cX10_runClause 159 = .ok (.iconst (-1), 1) := by decide +kernel
theorem dX10_runClause_160 : decode cX10_runClause 160 = .ok (.if_icmp .eq 7, 3) := by decide +kernel
theorem dX10_runClause_163 : decode cX10_runClause 163 = .ok (.iconst 1, 1) := by decide +kernel
theorem dX10_runClause_164 : decode cX10_runClause 164 = .ok (.goto 4, 3) := by decide +kernel
theorem dX10_runClause_167 : decode cX10_runClause 167 = .ok (.iconst 0, 1) := by decide +kernel
theorem dX10_runClause_168 : decode cX10_runClause 168 = .ok (.ireturn, 1) := by decide +kernel
theorem dX10_runClause_169 : decode cX10_runClause 169 = .ok (.aload_n 0, 1) := by decide +kernel
theorem dX10_runClause_170 : decode cX10_runClause 170 = .ok (.getfield 44, 3) := by decide +kernel
theorem dX10_runClause_173 : decode cX10_runClause 173 = .ok (.iload_n 2, 1) := by decide +kernel
theorem dX10_runClause_174 : decode cX10_runClause 174 = .ok (.invokevirtual 139, 3) := by decide +kernel
theorem dX10_runClause_177 : decode cX10_runClause 177 = .ok (.iconst (-1), 1) := by decide +kernel
theorem dX10_runClause_178 : decode cX10_runClause 178 = .ok (.if_icmp .eq 7, 3) := by decide +kernel
theorem dX10_runClause_181 : decode cX10_runClause 181 = .ok (.iconst 1, 1) := by decide +kernel
theorem dX10_runClause_182 : decode cX10_runClause 182 = .ok (.goto 4, 3) := by decide +kernel
theorem dX10_runClause_185 : decode cX10_runClause 185 = .ok (.iconst 0, 1) := by decide +kernel
theorem dX10_runClause_186 : decode cX10_runClause 186 = .ok (.ireturn, 1) := by decide +kernel
theorem dX10_runClause_187 : decode cX10_runClause 187 = .ok (.aload_n 0, 1) := by decide +kernel
theorem dX10_runClause_188 : decode cX10_runClause 188 = .ok (.getfield 51, 3) := by decide +kernel
theorem dX10_runClause_191 : decode cX10_runClause 191 = .ok (.iload_n 2, 1) := by decide +kernel
theorem dX10_runClause_192 : decode cX10_runClause 192 = .ok (.iload_n 3, 1) := by decide +kernel
theorem dX10_runClause_193 : decode cX10_runClause 193 = .ok (.invokevirtual 142, 3) := by decide +kernel
theorem dX10_runClause_196 : decode cX10_runClause 196 = .ok (.iconst (-1), 1) := by decide +kernel
theorem dX10_runClause_197 : decode cX10_runClause 197 = .ok (.if_icmp .eq 7, 3) := by decide +kernel
theorem dX10_runClause_200 : decode cX10_runClause 200 = .ok (.iconst 1, 1) := by decide +kernel
theorem dX10_runClause_201 : decode cX10_runClause 201 = .ok (.goto 4, 3) := by decide +kernel
theorem dX10_runClause_204 : decode cX10_runClause 204 = .ok (.iconst 0, 1) := by decide +kernel
theorem dX10_runClause_205 : decode cX10_runClause 205 = .ok (.ireturn, 1) := by decide +kernel
theorem dX10_runClause_206 : decode cX10_runClause 206 = .ok (.aload_n 0, 1) := by decide +kernel
theorem dX10_runClause_207 : decode cX10_runClause 207 = .ok (.getfield 51, 3) := by decide +kernel
theorem dX10_runClause_210 : decode cX10_runClause 210 = .ok (.iload_n 2, 1) := by decide +kernel
theorem dX10_runClause_211 : decode cX10_runClause 211 = .ok (.iload_n 3, 1) := by decide +kernel
theorem dX10_runClause_212 : decode cX10_runClause 212 = .ok (.invokevirtual 145, 3) := by decide +kernel
theorem dX10_runClause_215 : decode cX10_runClause 215 = .ok (.iconst (-1), 1) := by decide +kernel
theorem dX10_runClause_216 : decode cX10_runClause 216 = .ok (.if_icmp .eq 7, 3) := by decide +kernel
theorem dX10_runClause_219 : decode cX10_runClause 219 = .ok (.iconst 1, 1) := by decide +kernel
theorem dX10_runClause_220 : decode cX10_runClause 220 = .ok (.goto 4, 3) := by decide +kernel
theorem dX10_runClause_223 : decode cX10_runClause 223 = .ok (.iconst 0, 1) := by decide +kernel
theorem dX10_runClause_224 : decode cX10_runClause 224 = .ok (.ireturn, 1) := by decide +kernel
theorem dX10_runClause_225 : decode cX10_runClause 225 = .ok (.aload_n 0, 1) := by decide +kernel
theorem dX10_runClause_226 : decode cX10_runClause 226 = .ok (.getfield 51, 3) := by decide +kernel
theorem dX10_runClause_229 : decode cX10_runClause 229 = .ok (.iload_n 2, 1) := by decide +kernel
theorem dX10_runClause_230 : decode cX10_runClause 230 = .ok (.iload_n 3, 1) := by decide +kernel
theorem dX10_runClause_231 : decode cX10_runClause 231 = .ok (.invokevirtual 148, 3) := by decide +kernel
theorem dX10_runClause_234 : decode cX10_runClause 234 = .ok (.ireturn, 1) := by decide +kernel
theorem dX10_runClause_235 : decode cX10_runClause 235 = .ok (.aload_n 0, 1) := by decide +kernel
theorem dX10_runClause_236 : decode cX10_runClause 236 = .ok (.getfield 51, 3) := by decide +kernel
theorem dX10_runClause_239 : decode cX10_runClause 239 = .ok (.iload_n 2, 1) := by decide +kernel
theorem dX10_runClause_240 : decode cX10_runClause 240 = .ok (.invokevirtual 152, 3) := by decide +kernel
theorem dX10_runClause_243 : decode cX10_runClause 243 = .ok (.iconst (-1), 1) := by decide +kernel
theorem dX10_runClause_244 : decode cX10_runClause 244 = .ok (.if_icmp .eq 7, 3) := by decide +kernel
theorem dX10_runClause_247 : decode cX10_runClause 247 = .ok (.iconst 1, 1) := by decide +kernel
theorem dX10_runClause_248 : decode cX10_runClause 248 = .ok (.goto 4, 3) := by decide +kernel
theorem dX10_runClause_251 : decode cX10_runClause 251 = .ok (.iconst 0, 1) := by decide +kernel
theorem dX10_runClause_252 : decode cX10_runClause 252 = .ok (.ireturn, 1) := by decide +kernel
theorem dX10_runClause_253 : decode cX10_runClause 253 = .ok (.aload_n 0, 1) := by decide +kernel
theorem dX10_runClause_254 : decode cX10_runClause 254 = .ok (.getfield 18, 3) := by decide +kernel
theorem dX10_runClause_257 : decode cX10_runClause 257 = .ok (.iload_n 2, 1) := by decide +kernel
theorem dX10_runClause_258 : decode cX10_runClause 258 = .ok (.invokevirtual 155, 3) := by decide +kernel
theorem dX10_runClause_261 : decode cX10_runClause 261 = .ok (.ireturn, 1) := by decide +kernel
theorem dX10_runClause_262 : decode cX10_runClause 262 = .ok (.aload_n 0, 1) := by decide +kernel
theorem dX10_runClause_263 : decode cX10_runClause 263 = .ok (.getfield 51, 3) := by decide +kernel
theorem dX10_runClause_266 : decode cX10_runClause 266 = .ok (.iload_n 2, 1) := by decide +kernel
theorem dX10_runClause_267 : decode cX10_runClause 267 = .ok (.invokevirtual 158, 3) := by decide +kernel
theorem dX10_runClause_270 : decode cX10_runClause 270 = .ok (.iconst (-1), 1) := by decide +kernel
theorem dX10_runClause_271 : decode cX10_runClause 271 = .ok (.if_icmp .eq 7, 3) := by decide +kernel
theorem dX10_runClause_274 : decode cX10_runClause 274 = .ok (.iconst 1, 1) := by decide +kernel
theorem dX10_runClause_275 : decode cX10_runClause 275 = .ok (.goto 4, 3) := by decide +kernel
theorem dX10_runClause_278 : decode cX10_runClause 278 = .ok (.iconst 0, 1) := by decide +kernel
theorem dX10_runClause_279 : decode cX10_runClause 279 = .ok (.ireturn, 1) := by decide +kernel
theorem dX10_runClause_280 : decode cX10_runClause 280 = .ok (.aload_n 0, 1) := by decide +kernel
theorem dX10_runClause_281 : decode cX10_runClause 281 = .ok (.getfield 51, 3) := by decide +kernel
theorem dX10_runClause_284 : decode cX10_runClause 284 = .ok (.iload_n 2, 1) := by decide +kernel
theorem dX10_runClause_285 : decode cX10_runClause 285 = .ok (.invokevirtual 161, 3) := by decide +kernel
theorem dX10_runClause_288 : decode cX10_runClause 288 = .ok (.ireturn, 1) := by decide +kernel
theorem dX10_runClause_289 : decode cX10_runClause 289 = .ok (.aload_n 0, 1) := by decide +kernel
theorem dX10_runClause_290 : decode cX10_runClause 290 = .ok (.getfield 18, 3) := by decide +kernel
theorem dX10_runClause_293 : decode cX10_runClause 293 = .ok (.invokevirtual 167, 3) := by decide +kernel
theorem dX10_runClause_296 : decode cX10_runClause 296 = .ok (.lconst 0, 1) := by decide +kernel
theorem dX10_runClause_297 : decode cX10_runClause 297 = .ok (.lcmp, 1) := by decide +kernel
theorem dX10_runClause_298 : decode cX10_runClause 298 = .ok (.ifCond .lt 7, 3) := by decide +kernel
theorem dX10_runClause_301 : decode cX10_runClause 301 = .ok (.iconst 1, 1) := by decide +kernel
theorem dX10_runClause_302 : decode cX10_runClause 302 = .ok (.goto 4, 3) := by decide +kernel
theorem dX10_runClause_305 : decode cX10_runClause 305 = .ok (.iconst 0, 1) := by decide +kernel
theorem dX10_runClause_306 : decode cX10_runClause 306 = .ok (.ireturn, 1) := by decide +kernel
theorem dX10_runClause_307 : decode cX10_runClause 307 = .ok (.aload_n 0, 1) := by decide +kernel
theorem dX10_runClause_308 : decode cX10_runClause 308 = .ok (.getfield 18, 3) := by decide +kernel
theorem dX10_runClause_311 : decode cX10_runClause 311 = .ok (.iload_n 2, 1) := by decide +kernel
theorem dX10_runClause_312 : decode cX10_runClause 312 = .ok (.invokevirtual 171, 3) := by decide +kernel
theorem dX10_runClause_315 : decode cX10_runClause 315 = .ok (.ireturn, 1) := by decide +kernel
theorem dX10_runClause_316 : decode cX10_runClause 316 = .ok (.iconst 0, 1) := by decide +kernel
theorem dX10_runClause_317 : decode cX10_runClause 317 = .ok (.ireturn, 1) := by decide +kernel
theorem dX10_isKey_0 : decode cX10_isKey 0 = .ok (.iload_n 0, 1) := by decide +kernel
theorem dX10_isKey_1 : decode cX10_isKey 1 = .ok (.ifCond .lt 14, 3) := by decide +kernel
theorem dX10_isKey_4 : decode cX10_isKey 4 = .ok (.iload_n 0, 1) := by decide +kernel
theorem dX10_isKey_5 : decode cX10_isKey 5 = .ok (.sipush 1000, 3) := by decide +kernel
theorem dX10_isKey_8 : decode cX10_isKey 8 = .ok (.if_icmp .ge 7, 3) := by decide +kernel
theorem dX10_isKey_11 : decode cX10_isKey 11 = .ok (.iconst 1, 1) := by decide +kernel
theorem dX10_isKey_12 : decode cX10_isKey 12 = .ok (.goto 4, 3) := by decide +kernel
theorem dX10_isKey_15 : decode cX10_isKey 15 = .ok (.iconst 0, 1) := by decide +kernel
theorem dX10_isKey_16 : decode cX10_isKey 16 = .ok (.ireturn, 1) := by decide +kernel
theorem dX10_isServer_0 : decode cX10_isServer 0 = .ok (.iload_n 0, 1) := by decide +kernel
theorem dX10_isServer_1 : decode cX10_isServer 1 = .ok (.ifCond .lt 13, 3) := by decide +kernel
theorem dX10_isServer_4 : decode cX10_isServer 4 = .ok (.iload_n 0, 1) := by decide +kernel
theorem dX10_isServer_5 : decode cX10_isServer 5 = .ok (.bipush 6, 2) := by decide +kernel
theorem dX10_isServer_7 : decode cX10_isServer 7 = .ok (.if_icmp .ge 7, 3) := by decide +kernel
theorem dX10_isServer_10 : decode cX10_isServer 10 = .ok (.iconst 1, 1) := by decide +kernel
theorem dX10_isServer_11 : decode cX10_isServer 11 = .ok (.goto 4, 3) := by decide +kernel
theorem dX10_isServer_14 : decode cX10_isServer 14 = .ok (.iconst 0, 1) := by decide +kernel
theorem dX10_isServer_15 : decode cX10_isServer 15 = .ok (.ireturn, 1) := by decide +kernel
theorem dX10_isClient_0 : decode cX10_isClient 0 = .ok (.iload_n 0, 1) := by decide +kernel
theorem dX10_isClient_1 : decode cX10_isClient 1 = .ok (.ifCond .lt 13, 3) := by decide +kernel
theorem dX10_isClient_4 : decode cX10_isClient 4 = .ok (.iload_n 0, 1) := by decide +kernel
theorem dX10_isClient_5 : decode cX10_isClient 5 = .ok (.bipush 6, 2) := by decide +kernel
theorem dX10_isClient_7 : decode cX10_isClient 7 = .ok (.if_icmp .ge 7, 3) := by decide +kernel
theorem dX10_isClient_10 : decode cX10_isClient 10 = .ok (.iconst 1, 1) := by decide +kernel
theorem dX10_isClient_11 : decode cX10_isClient 11 = .ok (.goto 4, 3) := by decide +kernel
theorem dX10_isClient_14 : decode cX10_isClient 14 = .ok (.iconst 0, 1) := by decide +kernel
theorem dX10_isClient_15 : decode cX10_isClient 15 = .ok (.ireturn, 1) := by decide +kernel
