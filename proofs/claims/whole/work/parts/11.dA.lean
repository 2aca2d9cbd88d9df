theorem dX0_init_0 : decode cX0_init 0 = .ok (.aload_n 0, 1) := by decide +kernel
theorem dX0_init_1 : decode cX0_init 1 = .ok (.invokespecial 3, 3) := by decide +kernel
theorem dX0_init_4 : decode cX0_init 4 = .ok (.aload_n 0, 1) := by decide +kernel
theorem dX0_init_5 : decode cX0_init 5 = .ok (.bipush 7, 2) := by decide +kernel
theorem dX0_init_7 : decode cX0_init 7 = .ok (.anewarray 9, 3) := by decide +kernel
theorem dX0_init_10 : decode cX0_init 10 = .ok (.putfield 11, 3) := by decide +kernel
theorem dX0_init_13 : decode cX0_init 13 = .ok (.return_, 1) := by decide +kernel
theorem dX0_save_0 : decode cX0_save 0 = .ok (.aload_n 0, 1) := by decide +kernel
theorem dX0_save_1 : decode cX0_save 1 = .ok (.getfield 11, 3) := by decide +kernel
theorem dX0_save_4 : decode cX0_save 4 = .ok (.aload_n 0, 1) := by decide +kernel
theorem dX0_save_5 : decode cX0_save 5 = .ok (.getfield 17, 3) := by decide +kernel
theorem dX0_save_8 : decode cX0_save 8 = .ok (.aaload, 1) := by decide +kernel
theorem dX0_save_9 : decode cX0_save 9 = .ok (.ifnonnull 19, 3) := by decide +kernel
theorem dX0_save_12 : decode cX0_save 12 = .ok (.aload_n 0, 1) := by decide +kernel
theorem dX0_save_13 : decode cX0_save 13 = .ok (.getfield 11, 3) := by decide +kernel
theorem dX0_save_16 : decode cX0_save 16 = .ok (.aload_n 0, 1) := by decide +kernel
theorem dX0_save_17 : decode cX0_save 17 = .ok (.getfield 17, 3) := by decide +kernel
theorem dX0_save_20 : decode cX0_save 20 = .ok (.new 9, 3) := by decide +kernel
theorem dX0_save_23 : decode cX0_save 23 = .ok (.dup, 1) := by decide +kernel
theorem dX0_save_24 : decode cX0_save 24 = .ok (.invokespecial 21, 3) := by decide +kernel
theorem dX0_save_27 : decode cX0_save 27 = .ok (.aastore, 1) := by decide +kernel
theorem dX0_save_28 : decode cX0_save 28 = .ok (.aload_n 0, 1) := by decide +kernel
theorem dX0_save_29 : decode cX0_save 29 = .ok (.getfield 11, 3) := by decide +kernel
theorem dX0_save_32 : decode cX0_save 32 = .ok (.aload_n 0, 1) := by decide +kernel
theorem dX0_save_33 : decode cX0_save 33 = .ok (.getfield 17, 3) := by decide +kernel
theorem dX0_save_36 : decode cX0_save 36 = .ok (.aaload, 1) := by decide +kernel
theorem dX0_save_37 : decode cX0_save 37 = .ok (.aload_n 1, 1) := by decide +kernel
theorem dX0_save_38 : decode cX0_save 38 = .ok (.invokevirtual 22, 3) := by decide +kernel
theorem dX0_save_41 : decode cX0_save 41 = .ok (.return_, 1) := by decide +kernel
theorem dX0_keep_0 : decode cX0_keep 0 = .ok (.aload_n 0, 1) := by decide +kernel
theorem dX0_keep_1 : decode cX0_keep 1 = .ok (.aload_n 0, 1) := by decide +kernel
theorem dX0_keep_2 : decode cX0_keep 2 = .ok (.getfield 17, 3) := by decide +kernel
theorem dX0_keep_5 : decode cX0_keep 5 = .ok (.iconst 1, 1) := by decide +kernel
theorem dX0_keep_6 : decode cX0_keep 6 = .ok (.iadd, 1) := by decide +kernel
theorem dX0_keep_7 : decode cX0_keep 7 = .ok (.bipush 7, 2) := by decide +kernel
theorem dX0_keep_9 : decode cX0_keep 9 = .ok (.irem, 1) := by decide +kernel
theorem dX0_keep_10 : decode cX0_keep 10 = .ok (.putfield 17, 3) := by decide +kernel
theorem dX0_keep_13 : decode cX0_keep 13 = .ok (.aload_n 0, 1) := by decide +kernel
theorem dX0_keep_14 : decode cX0_keep 14 = .ok (.aload_n 0, 1) := by decide +kernel
theorem dX0_keep_15 : decode cX0_keep 15 = .ok (.getfield 26, 3) := by decide +kernel
theorem dX0_keep_18 : decode cX0_keep 18 = .ok (.iconst 1, 1) := by decide +kernel
theorem dX0_keep_19 : decode cX0_keep 19 = .ok (.iadd, 1) := by decide +kernel
theorem dX0_keep_20 : decode cX0_keep 20 = .ok (.bipush 6, 2) := by decide +kernel
theorem dX0_keep_22 : decode cX0_keep 22 = .ok (.invokestatic 29, 3) := by decide +kernel
theorem dX0_keep_25 : decode cX0_keep 25 = .ok (.putfield 26, 3) := by decide +kernel
theorem dX0_keep_28 : decode cX0_keep 28 = .ok (.return_, 1) := by decide +kernel
theorem dX0_forget_0 : decode cX0_forget 0 = .ok (.aload_n 0, 1) := by decide +kernel
theorem dX0_forget_1 : decode cX0_forget 1 = .ok (.iconst 0, 1) := by decide +kernel
theorem dX0_forget_2 : decode cX0_forget 2 = .ok (.putfield 26, 3) := by decide +kernel
theorem dX0_forget_5 : decode cX0_forget 5 = .ok (.return_, 1) := by decide +kernel
theorem dX0_takeBack_0 : decode cX0_takeBack 0 = .ok (.aload_n 0, 1) := by decide +kernel
theorem dX0_takeBack_1 : decode cX0_takeBack 1 = .ok (.getfield 17, 3) := by decide +kernel
theorem dX0_takeBack_4 : decode cX0_takeBack 4 = .ok (.bipush 7, 2) := by decide +kernel
theorem dX0_takeBack_6 : decode cX0_takeBack 6 = .ok (.iadd, 1) := by decide +kernel
theorem dX0_takeBack_7 : decode cX0_takeBack 7 = .ok (.iconst 1, 1) := by decide +kernel
theorem dX0_takeBack_8 : decode cX0_takeBack 8 = .ok (.isub, 1) := by decide +kernel
theorem dX0_takeBack_9 : decode cX0_takeBack 9 = .ok (.bipush 7, 2) := by decide +kernel
theorem dX0_takeBack_11 : decode cX0_takeBack 11 = .ok (.irem, 1) := by decide +kernel
theorem dX0_takeBack_12 : decode cX0_takeBack 12 = .ok (.istore_n 2, 1) := by decide +kernel
theorem dX0_takeBack_13 : decode cX0_takeBack 13 = .ok (.aload_n 0, 1) := by decide +kernel
theorem dX0_takeBack_14 : decode cX0_takeBack 14 = .ok (.getfield 26, 3) := by decide +kernel
theorem dX0_takeBack_17 : decode cX0_takeBack 17 = .ok (.ifCond .eq 12, 3) := by decide +kernel
theorem dX0_takeBack_20 : decode cX0_takeBack 20 = .ok (.aload_n 0, 1) := by decide +kernel
theorem dX0_takeBack_21 : decode cX0_takeBack 21 = .ok (.getfield 11, 3) := by decide +kernel
theorem dX0_takeBack_24 : decode cX0_takeBack 24 = .ok (.iload_n 2, 1) := by decide +kernel
theorem dX0_takeBack_25 : decode cX0_takeBack 25 = .ok (.aaload, 1) := by decide +kernel
theorem dX0_takeBack_26 : decode cX0_takeBack 26 = .ok (.ifnonnull 5, 3) := by decide +kernel
theorem dX0_takeBack_29 : decode cX0_takeBack 29 = .ok (.iconst 0, 1) := by decide +kernel
theorem dX0_takeBack_30 : decode cX0_takeBack 30 = .ok (.ireturn, 1) := by decide +kernel
theorem dX0_takeBack_31 : decode cX0_takeBack 31 = .ok (.aload_n 1, 1) := by decide +kernel
theorem dX0_takeBack_32 : decode cX0_takeBack 32 = .ok (.aload_n 0, 1) := by decide +kernel
theorem dX0_takeBack_33 : decode cX0_takeBack 33 = .ok (.getfield 11, 3) := by decide +kernel
theorem dX0_takeBack_36 : decode cX0_takeBack 36 = .ok (.iload_n 2, 1) := by decide +kernel
theorem dX0_takeBack_37 : decode cX0_takeBack 37 = .ok (.aaload, 1) := by decide +kernel
theorem dX0_takeBack_38 : decode cX0_takeBack 38 = .ok (.invokevirtual 22, 3) := by decide +kernel
theorem dX0_takeBack_41 : decode cX0_takeBack 41 = .ok (.aload_n 0, 1) := by decide +kernel
theorem dX0_takeBack_42 : decode cX0_takeBack 42 = .ok (.iload_n 2, 1) := by decide +kernel
theorem dX0_takeBack_43 : decode cX0_takeBack 43 = .ok (.putfield 17, 3) := by decide +kernel
theorem dX0_takeBack_46 : decode cX0_takeBack 46 = .ok (.aload_n 0, 1) := by decide +kernel
theorem dX0_takeBack_47 : decode cX0_takeBack 47 = .ok (.dup, 1) := by decide +kernel
theorem dX0_takeBack_48 : decode cX0_takeBack 48 = .ok (.getfield 26, 3) := by decide +kernel
theorem dX0_takeBack_51 : decode cX0_takeBack 51 = .ok (.iconst 1, 1) := by decide +kernel
theorem dX0_takeBack_52 : decode cX0_takeBack 52 = .ok (.isub, 1) := by decide +kernel
theorem dX0_takeBack_53 : decode cX0_takeBack 53 = .ok (.putfield 26, 3) := by decide +kernel
theorem dX0_takeBack_56 : decode cX0_takeBack 56 = .ok (.iconst 1, 1) := by decide +kernel
theorem dX0_takeBack_57 : decode cX0_takeBack 57 = .ok (.ireturn, 1) := by decide +kernel
theorem dX1_init_0 : decode cX1_init 0 = .ok (.aload_n 0, 1) := by decide +kernel
theorem dX1_init_1 : decode cX1_init 1 = .ok (.invokespecial 3, 3) := by decide +kernel
theorem dX1_init_4 : decode cX1_init 4 = .ok (.aload_n 0, 1) := by decide +kernel
theorem dX1_init_5 : decode cX1_init 5 = .ok (.aload_n 1, 1) := by decide +kernel
theorem dX1_init_6 : decode cX1_init 6 = .ok (.putfield 9, 3) := by decide +kernel
theorem dX1_init_9 : decode cX1_init 9 = .ok (.aload_n 0, 1) := by decide +kernel
theorem dX1_init_10 : decode cX1_init 10 = .ok (.aload_n 2, 1) := by decide +kernel
theorem dX1_init_11 : decode cX1_init 11 = .ok (.putfield 15, 3) := by decide +kernel
theorem dX1_init_14 : decode cX1_init 14 = .ok (.return_, 1) := by decide +kernel
theorem dX1_takeMap_0 : decode cX1_takeMap 0 = .ok (.iload_n 1, 1) := by decide +kernel
theorem dX1_takeMap_1 : decode cX1_takeMap 1 = .ok (.invokestatic 19, 3) := by decide +kernel
theorem dX1_takeMap_4 : decode cX1_takeMap 4 = .ok (.ifCond .ne 5, 3) := by decide +kernel
theorem dX1_takeMap_7 : decode cX1_takeMap 7 = .ok (.iconst (-1), 1) := by decide +kernel
theorem dX1_takeMap_8 : decode cX1_takeMap 8 = .ok (.ireturn, 1) := by decide +kernel
theorem dX1_takeMap_9 : decode cX1_takeMap 9 = .ok (.aload_n 0, 1) := by decide +kernel
theorem dX1_takeMap_10 : decode cX1_takeMap 10 = .ok (.getfield 9, 3) := by decide +kernel
theorem dX1_takeMap_13 : decode cX1_takeMap 13 = .ok (.getfield 23, 3) := by decide +kernel
theorem dX1_takeMap_16 : decode cX1_takeMap 16 = .ok (.iload_n 1, 1) := by decide +kernel
theorem dX1_takeMap_17 : decode cX1_takeMap 17 = .ok (.aaload, 1) := by decide +kernel
theorem dX1_takeMap_18 : decode cX1_takeMap 18 = .ok (.aload_n 0, 1) := by decide +kernel
theorem dX1_takeMap_19 : decode cX1_takeMap 19 = .ok (.getfield 9, 3) := by decide +kernel
theorem dX1_takeMap_22 : decode cX1_takeMap 22 = .ok (.getfield 29, 3) := by decide +kernel
theorem dX1_takeMap_25 : decode cX1_takeMap 25 = .ok (.invokevirtual 33, 3) := by decide +kernel
theorem dX1_takeMap_28 : decode cX1_takeMap 28 = .ok (.aload_n 0, 1) := by decide +kernel
theorem dX1_takeMap_29 : decode cX1_takeMap 29 = .ok (.getfield 9, 3) := by decide +kernel
theorem dX1_takeMap_32 : decode cX1_takeMap 32 = .ok (.getfield 29, 3) := by decide +kernel
theorem dX1_takeMap_35 : decode cX1_takeMap 35 = .ok (.getfield 39, 3) := by decide +kernel
theorem dX1_takeMap_38 : decode cX1_takeMap 38 = .ok (.ireturn, 1) := by decide +kernel
theorem dX1_readKey_0 : decode cX1_readKey 0 = .ok (.iload_n 1, 1) := by decide +kernel
theorem dX1_readKey_1 : decode cX1_readKey 1 = .ok (.invokestatic 19, 3) := by decide +kernel
theorem dX1_readKey_4 : decode cX1_readKey 4 = .ok (.ifCond .eq 10, 3) := by decide +kernel
theorem dX1_readKey_7 : decode cX1_readKey 7 = .ok (.iload_n 2, 1) := by decide +kernel
theorem dX1_readKey_8 : decode cX1_readKey 8 = .ok (.invokestatic 43, 3) := by decide +kernel
theorem dX1_readKey_11 : decode cX1_readKey 11 = .ok (.ifCond .ne 6, 3) := by decide +kernel
theorem dX1_readKey_14 : decode cX1_readKey 14 = .ok (.bipush (-10), 2) := by decide +kernel
theorem dX1_readKey_16 : decode cX1_readKey 16 = .ok (.ireturn, 1) := by decide +kernel
theorem dX1_readKey_17 : decode cX1_readKey 17 = .ok (.aload_n 0, 1) := by decide +kernel
theorem dX1_readKey_18 : decode cX1_readKey 18 = .ok (.getfield 9, 3) := by decide +kernel
theorem dX1_readKey_21 : decode cX1_readKey 21 = .ok (.getfield 29, 3) := by decide +kernel
theorem dX1_readKey_24 : decode cX1_readKey 24 = .ok (.iload_n 2, 1) := by decide +kernel
theorem dX1_readKey_25 : decode cX1_readKey 25 = .ok (.invokevirtual 46, 3) := by decide +kernel
theorem dX1_readKey_28 : decode cX1_readKey 28 = .ok (.istore_n 3, 1) := by decide +kernel
theorem dX1_readKey_29 : decode cX1_readKey 29 = .ok (.aload_n 0, 1) := by decide +kernel
theorem dX1_readKey_30 : decode cX1_readKey 30 = .ok (.iload_n 1, 1) := by decide +kernel
theorem dX1_readKey_31 : decode cX1_readKey 31 = .ok (.iload_n 2, 1) := by decide +kernel
theorem dX1_readKey_32 : decode cX1_readKey 32 = .ok (.iconst 0, 1) := by decide +kernel
theorem dX1_readKey_33 : decode cX1_readKey 33 = .ok (.invokevirtual 50, 3) := by decide +kernel
theorem dX1_readKey_36 : decode cX1_readKey 36 = .ok (.istore 4, 2) := by decide +kernel
theorem dX1_readKey_38 : decode cX1_readKey 38 = .ok (.aload_n 0, 1) := by decide +kernel
theorem dX1_readKey_39 : decode cX1_readKey 39 = .ok (.getfield 15, 3) := by decide +kernel
theorem dX1_readKey_42 : decode cX1_readKey 42 = .ok (.iload_n 1, 1) := by decide +kernel
theorem dX1_readKey_43 : decode cX1_readKey 43 = .ok (.iload 4, 2) := by decide +kernel
theorem dX1_readKey_45 : decode cX1_readKey 45 = .ok (.iconst 0, 1) := by decide +kernel
theorem dX1_readKey_46 : decode cX1_readKey 46 = .ok (.aload_n 0, 1) := by decide +kernel
theorem dX1_readKey_47 : decode cX1_readKey 47 = .ok (.getfield 9, 3) := by decide +kernel
theorem dX1_readKey_50 : decode cX1_readKey 50 = .ok (.getfield 29, 3) := by decide +kernel
theorem dX1_readKey_53 : decode cX1_readKey 53 = .ok (.getfield 54, 3) := by decide +kernel
theorem dX1_readKey_56 : decode cX1_readKey 56 = .ok (.iload_n 3, 1) := by decide +kernel
theorem dX1_readKey_57 : decode cX1_readKey 57 = .ok (.iaload, 1) := by decide +kernel
theorem dX1_readKey_58 : decode cX1_readKey 58 = .ok (.invokevirtual 58, 3) := by decide +kernel
theorem dX1_readKey_61 : decode cX1_readKey 61 = .ok (.iload 4, 2) := by decide +kernel
theorem dX1_readKey_63 : decode cX1_readKey 63 = .ok (.ifCond .eq 8, 3) := by decide +kernel
theorem dX1_readKey_66 : decode cX1_readKey 66 = .ok (.iconst (-1), 1) := by decide +kernel
theorem dX1_readKey_67 : decode cX1_readKey 67 = .ok (.iload 4, 2) := by decide +kernel
theorem dX1_readKey_69 : decode cX1_readKey 69 = .ok (.isub, 1) := by decide +kernel
theorem dX1_readKey_70 : decode cX1_readKey 70 = .ok (.ireturn, 1) := by decide +kernel
theorem dX1_readKey_71 : decode cX1_readKey 71 = .ok (.aload_n 0, 1) := by decide +kernel
theorem dX1_readKey_72 : decode cX1_readKey 72 = .ok (.getfield 9, 3) := by decide +kernel
theorem dX1_readKey_75 : decode cX1_readKey 75 = .ok (.getfield 64, 3) := by decide +kernel
theorem dX1_readKey_78 : decode cX1_readKey 78 = .ok (.iload_n 2, 1) := by decide +kernel
theorem dX1_readKey_79 : decode cX1_readKey 79 = .ok (.dup2, 1) := by decide +kernel
theorem dX1_readKey_80 : decode cX1_readKey 80 = .ok (.iaload, 1) := by decide +kernel
theorem dX1_readKey_81 : decode cX1_readKey 81 = .ok (.iconst 1, 1) := by decide +kernel
theorem dX1_readKey_82 : decode cX1_readKey 82 = .ok (.iadd, 1) := by decide +kernel
theorem dX1_readKey_83 : decode cX1_readKey 83 = .ok (.iastore, 1) := by decide +kernel
theorem dX1_readKey_84 : decode cX1_readKey 84 = .ok (.aload_n 0, 1) := by decide +kernel
theorem dX1_readKey_85 : decode cX1_readKey 85 = .ok (.getfield 9, 3) := by decide +kernel
theorem dX1_readKey_88 : decode cX1_readKey 88 = .ok (.aload_n 0, 1) := by decide +kernel
theorem dX1_readKey_89 : decode cX1_readKey 89 = .ok (.getfield 9, 3) := by decide +kernel
theorem dX1_readKey_92 : decode cX1_readKey 92 = .ok (.getfield 29, 3) := by decide +kernel
theorem dX1_readKey_95 : decode cX1_readKey 95 = .ok (.getfield 67, 3) := by decide +kernel
theorem dX1_readKey_98 : decode cX1_readKey 98 = .ok (.iload_n 3, 1) := by decide +kernel
theorem dX1_readKey_99 : decode cX1_readKey 99 = .ok (.iaload, 1) := by decide +kernel
theorem dX1_readKey_100 : decode cX1_readKey 100 = .ok (.iload_n 2, 1) := by decide +kernel
theorem dX1_readKey_101 : decode cX1_readKey 101 = .ok (.invokevirtual 70, 3) := by decide +kernel
theorem dX1_readKey_104 : decode cX1_readKey 104 = .ok (.ireturn, 1) := by decide +kernel
theorem dX1_writeKey_0 : decode cX1_writeKey 0 = .ok (.iload_n 1, 1) := by decide +kernel
theorem dX1_writeKey_1 : decode cX1_writeKey 1 = .ok (.invokestatic 19, 3) := by decide +kernel
theorem dX1_writeKey_4 : decode cX1_writeKey 4 = .ok (.ifCond .eq 21, 3) := by decide +kernel
theorem dX1_writeKey_7 : decode cX1_writeKey 7 = .ok (.iload_n 2, 1) := by decide +kernel
theorem dX1_writeKey_8 : decode cX1_writeKey 8 = .ok (.invokestatic 43, 3) := by decide +kernel
theorem dX1_writeKey_11 : decode cX1_writeKey 11 = .ok (.ifCond .eq 14, 3) := by decide +kernel
theorem dX1_writeKey_14 : decode cX1_writeKey 14 = .ok (.iload_n 3, 1) := by decide +kernel
theorem dX1_writeKey_15 : decode cX1_writeKey 15 = .ok (.iconst 1, 1) := by decide +kernel
theorem dX1_writeKey_16 : decode cX1_writeKey 16 = .ok (.if_icmp .lt 9, 3) := by decide +kernel
theorem dX1_writeKey_19 : decode cX1_writeKey 19 = .ok (.iload_n 3, 1) := by decide +kernel
theorem dX1_writeKey_20 : decode cX1_writeKey 20 = .ok (.ldc 74, 2) := by decide +kernel
theorem dX1_writeKey_22 : decode cX1_writeKey 22 = .ok (.if_icmp .le 5, 3) := by decide +kernel
theorem dX1_writeKey_25 : decode cX1_writeKey 25 = .ok (.iconst (-1), 1) := by decide +kernel
theorem dX1_writeKey_26 : decode cX1_writeKey 26 = .ok (.ireturn, 1) := by decide +kernel
theorem dX1_writeKey_27 : decode cX1_writeKey 27 = .ok (.aload_n 0, 1) := by decide +kernel
theorem dX1_writeKey_28 : decode cX1_writeKey 28 = .ok (.getfield 9, 3) := by decide +kernel
theorem dX1_writeKey_31 : decode cX1_writeKey 31 = .ok (.getfield 29, 3) := by decide +kernel
theorem dX1_writeKey_34 : decode cX1_writeKey 34 = .ok (.iload_n 2, 1) := by decide +kernel
theorem dX1_writeKey_35 : decode cX1_writeKey 35 = .ok (.invokevirtual 46, 3) := by decide +kernel
theorem dX1_writeKey_38 : decode cX1_writeKey 38 = .ok (.istore 4, 2) := by decide +kernel
theorem dX1_writeKey_40 : decode cX1_writeKey 40 = .ok (.aload_n 0, 1) := by decide +kernel
theorem dX1_writeKey_41 : decode cX1_writeKey 41 = .ok (.iload_n 1, 1) := by decide +kernel
theorem dX1_writeKey_42 : decode cX1_writeKey 42 = .ok (.iload_n 2, 1) := by decide +kernel
theorem dX1_writeKey_43 : decode cX1_writeKey 43 = .ok (.iconst 1, 1) := by decide +kernel
theorem dX1_writeKey_44 : decode cX1_writeKey 44 = .ok (.invokevirtual 50, 3) := by decide +kernel
theorem dX1_writeKey_47 : decode cX1_writeKey 47 = .ok (.istore 5, 2) := by decide +kernel
theorem dX1_writeKey_49 : decode cX1_writeKey 49 = .ok (.aload_n 0, 1) := by decide +kernel
theorem dX1_writeKey_50 : decode cX1_writeKey 50 = .ok (.getfield 15, 3) := by decide +kernel
theorem dX1_writeKey_53 : decode cX1_writeKey 53 = .ok (.iload_n 1, 1) := by decide +kernel
theorem dX1_writeKey_54 : decode cX1_writeKey 54 = .ok (.iload 5, 2) := by decide +kernel
theorem dX1_writeKey_56 : decode cX1_writeKey 56 = .ok (.iconst 1, 1) := by decide +kernel
theorem dX1_writeKey_57 : decode cX1_writeKey 57 = .ok (.aload_n 0, 1) := by decide +kernel
theorem dX1_writeKey_58 : decode cX1_writeKey 58 = .ok (.getfield 9, 3) := by decide +kernel
theorem dX1_writeKey_61 : decode cX1_writeKey 61 = .ok (.getfield 29, 3) := by decide +kernel
theorem dX1_writeKey_64 : decode cX1_writeKey 64 = .ok (.getfield 54, 3) := by decide +kernel
theorem dX1_writeKey_67 : decode cX1_writeKey 67 = .ok (.iload 4, 2) := by decide +kernel
theorem dX1_writeKey_69 : decode cX1_writeKey 69 = .ok (.iaload, 1) := by decide +kernel
theorem dX1_writeKey_70 : decode cX1_writeKey 70 = .ok (.invokevirtual 58, 3) := by decide +kernel
theorem dX1_writeKey_73 : decode cX1_writeKey 73 = .ok (.iload 5, 2) := by decide +kernel
theorem dX1_writeKey_75 : decode cX1_writeKey 75 = .ok (.ifCond .ne 80, 3) := by decide +kernel
theorem dX1_writeKey_78 : decode cX1_writeKey 78 = .ok (.aload_n 0, 1) := by decide +kernel
theorem dX1_writeKey_79 : decode cX1_writeKey 79 = .ok (.getfield 9, 3) := by decide +kernel
theorem dX1_writeKey_82 : decode cX1_writeKey 82 = .ok (.getfield 64, 3) := by decide +kernel
theorem dX1_writeKey_85 : decode cX1_writeKey 85 = .ok (.iload_n 2, 1) := by decide +kernel
theorem dX1_writeKey_86 : decode cX1_writeKey 86 = .ok (.dup2, 1) := by decide +kernel
theorem dX1_writeKey_87 : decode cX1_writeKey 87 = .ok (.iaload, 1) := by decide +kernel
theorem dX1_writeKey_88 : decode cX1_writeKey 88 = .ok (.iconst 2, 1) := by decide +kernel
theorem dX1_writeKey_89 : decode cX1_writeKey 89 = .ok (.iadd, 1) := by decide +kernel
theorem dX1_writeKey_90 : decode cX1_writeKey 90 = .ok (.iastore, 1) := by decide +kernel
theorem dX1_writeKey_91 : decode cX1_writeKey 91 = .ok (.aload_n 0, 1) := by decide +kernel
theorem dX1_writeKey_92 : decode cX1_writeKey 92 = .ok (.getfield 9, 3) := by decide +kernel
theorem dX1_writeKey_95 : decode cX1_writeKey 95 = .ok (.aload_n 0, 1) := by decide +kernel
theorem dX1_writeKey_96 : decode cX1_writeKey 96 = .ok (.getfield 9, 3) := by decide +kernel
theorem dX1_writeKey_99 : decode cX1_writeKey 99 = .ok (.getfield 29, 3) := by decide +kernel
theorem dX1_writeKey_102 : decode cX1_writeKey 102 = .ok (.getfield 67, 3) := by decide +kernel
theorem dX1_writeKey_105 : decode cX1_writeKey 105 = .ok (.iload 4, 2) := by decide +kernel
theorem dX1_writeKey_107 : decode cX1_writeKey 107 = .ok (.iaload, 1) := by decide +kernel
theorem dX1_writeKey_108 : decode cX1_writeKey 108 = .ok (.iload_n 2, 1) := by decide +kernel
theorem dX1_writeKey_109 : decode cX1_writeKey 109 = .ok (.iload_n 3, 1) := by decide +kernel
theorem dX1_writeKey_110 : decode cX1_writeKey 110 = .ok (.invokevirtual 75, 3) := by decide +kernel
theorem dX1_writeKey_113 : decode cX1_writeKey 113 = .ok (.aload_n 0, 1) := by decide +kernel
theorem dX1_writeKey_114 : decode cX1_writeKey 114 = .ok (.getfield 9, 3) := by decide +kernel
theorem dX1_writeKey_117 : decode cX1_writeKey 117 = .ok (.aload_n 0, 1) := by decide +kernel
theorem dX1_writeKey_118 : decode cX1_writeKey 118 = .ok (.getfield 9, 3) := by decide +kernel
theorem dX1_writeKey_121 : decode cX1_writeKey 121 = .ok (.getfield 29, 3) := by decide +kernel
theorem dX1_writeKey_124 : decode cX1_writeKey 124 = .ok (.getfield 79, 3) := by decide +kernel
theorem dX1_writeKey_127 : decode cX1_writeKey 127 = .ok (.iload 4, 2) := by decide +kernel
theorem dX1_writeKey_129 : decode cX1_writeKey 129 = .ok (.iaload, 1) := by decide +kernel
theorem dX1_writeKey_130 : decode cX1_writeKey 130 = .ok (.invokevirtual 82, 3) := by decide +kernel
theorem dX1_writeKey_133 : decode cX1_writeKey 133 = .ok (.istore 6, 2) := by decide +kernel
theorem dX1_writeKey_135 : decode cX1_writeKey 135 = .ok (.iload 6, 2) := by decide +kernel
theorem dX1_writeKey_137 : decode cX1_writeKey 137 = .ok (.iconst (-1), 1) := by decide +kernel
theorem dX1_writeKey_138 : decode cX1_writeKey 138 = .ok (.if_icmp .eq 17, 3) := by decide +kernel
theorem dX1_writeKey_141 : decode cX1_writeKey 141 = .ok (.aload_n 0, 1) := by decide +kernel
theorem dX1_writeKey_142 : decode cX1_writeKey 142 = .ok (.getfield 9, 3) := by decide +kernel
theorem dX1_writeKey_145 : decode cX1_writeKey 145 = .ok (.getfield 85, 3) := by decide +kernel
theorem dX1_writeKey_148 : decode cX1_writeKey 148 = .ok (.iload 6, 2) := by decide +kernel
theorem dX1_writeKey_150 : decode cX1_writeKey 150 = .ok (.aaload, 1) := by decide +kernel
theorem dX1_writeKey_151 : decode cX1_writeKey 151 = .ok (.iload_n 2, 1) := by decide +kernel
theorem dX1_writeKey_152 : decode cX1_writeKey 152 = .ok (.invokevirtual 89, 3) := by decide +kernel
theorem dX1_writeKey_155 : decode cX1_writeKey 155 = .ok (.iload 5, 2) := by decide +kernel
theorem dX1_writeKey_157 : decode cX1_writeKey 157 = .ok (.ireturn, 1) := by decide +kernel
theorem dX1_staleSpans_0 : decode cX1_staleSpans 0 = .ok (.aload_n 0, 1) := by decide +kernel
theorem dX1_staleSpans_1 : decode cX1_staleSpans 1 = .ok (.getfield 9, 3) := by decide +kernel
theorem dX1_staleSpans_4 : decode cX1_staleSpans 4 = .ok (.getfield 23, 3) := by decide +kernel
theorem dX1_staleSpans_7 : decode cX1_staleSpans 7 = .ok (.iload_n 1, 1) := by decide +kernel
theorem dX1_staleSpans_8 : decode cX1_staleSpans 8 = .ok (.aaload, 1) := by decide +kernel
theorem dX1_staleSpans_9 : decode cX1_staleSpans 9 = .ok (.astore_n 2, 1) := by decide +kernel
theorem dX1_staleSpans_10 : decode cX1_staleSpans 10 = .ok (.iconst 0, 1) := by decide +kernel
theorem dX1_staleSpans_11 : decode cX1_staleSpans 11 = .ok (.istore_n 3, 1) := by decide +kernel
theorem dX1_staleSpans_12 : decode cX1_staleSpans 12 = .ok (.iconst 0, 1) := by decide +kernel
theorem dX1_staleSpans_13 : decode cX1_staleSpans 13 = .ok (.istore 4, 2) := by decide +kernel
theorem dX1_staleSpans_15 : decode cX1_staleSpans 15 = .ok (.iload 4, 2) := by decide +kernel
theorem dX1_staleSpans_17 : decode cX1_staleSpans 17 = .ok (.aload_n 2, 1) := by decide +kernel
theorem dX1_staleSpans_18 : decode cX1_staleSpans 18 = .ok (.getfield 95, 3) := by decide +kernel
theorem dX1_staleSpans_21 : decode cX1_staleSpans 21 = .ok (.if_icmp .ge 29, 3) := by decide +kernel
theorem dX1_staleSpans_24 : decode cX1_staleSpans 24 = .ok (.aload_n 0, 1) := by decide +kernel
theorem dX1_staleSpans_25 : decode cX1_staleSpans 25 = .ok (.iload_n 1, 1) := by decide +kernel
theorem dX1_staleSpans_26 : decode cX1_staleSpans 26 = .ok (.aload_n 2, 1) := by decide +kernel
theorem dX1_staleSpans_27 : decode cX1_staleSpans 27 = .ok (.getfield 79, 3) := by decide +kernel
theorem dX1_staleSpans_30 : decode cX1_staleSpans 30 = .ok (.iload 4, 2) := by decide +kernel
theorem dX1_staleSpans_32 : decode cX1_staleSpans 32 = .ok (.iaload, 1) := by decide +kernel
theorem dX1_staleSpans_33 : decode cX1_staleSpans 33 = .ok (.iconst 0, 1) := by decide +kernel
theorem dX1_staleSpans_34 : decode cX1_staleSpans 34 = .ok (.invokevirtual 50, 3) := by decide +kernel
theorem dX1_staleSpans_37 : decode cX1_staleSpans 37 = .ok (.iconst 3, 1) := by decide +kernel
theorem dX1_staleSpans_38 : decode cX1_staleSpans 38 = .ok (.if_icmp .ne 6, 3) := by decide +kernel
theorem dX1_staleSpans_41 : decode cX1_staleSpans 41 = .ok (.iinc 3 1, 3) := by decide +kernel
theorem dX1_staleSpans_44 : decode cX1_staleSpans 44 = .ok (.iinc 4 1, 3) := by decide +kernel
theorem dX1_staleSpans_47 : decode cX1_staleSpans 47 = .ok (.goto (-32), 3) := by decide +kernel
theorem dX1_staleSpans_50 : decode cX1_staleSpans 50 = .ok (.iload_n 3, 1) := by decide +kernel
theorem dX1_staleSpans_51 : decode cX1_staleSpans 51 = .ok (.ireturn, 1) := by decide +kernel
theorem dX1_answerTo_0 : decode cX1_answerTo 0 = .ok (.aload_n 0, 1) := by decide +kernel
theorem dX1_answerTo_1 : decode cX1_answerTo 1 = .ok (.getfield 9, 3) := by decide +kernel
theorem dX1_answerTo_4 : decode cX1_answerTo 4 = .ok (.getfield 23, 3) := by decide +kernel
theorem dX1_answerTo_7 : decode cX1_answerTo 7 = .ok (.iload_n 1, 1) := by decide +kernel
theorem dX1_answerTo_8 : decode cX1_answerTo 8 = .ok (.aaload, 1) := by decide +kernel
theorem dX1_answerTo_9 : decode cX1_answerTo 9 = .ok (.astore 4, 2) := by decide +kernel
theorem dX1_answerTo_11 : decode cX1_answerTo 11 = .ok (.aload 4, 2) := by decide +kernel
theorem dX1_answerTo_13 : decode cX1_answerTo 13 = .ok (.getfield 95, 3) := by decide +kernel
theorem dX1_answerTo_16 : decode cX1_answerTo 16 = .ok (.ifCond .ne 5, 3) := by decide +kernel
theorem dX1_answerTo_19 : decode cX1_answerTo 19 = .ok (.iconst 1, 1) := by decide +kernel
theorem dX1_answerTo_20 : decode cX1_answerTo 20 = .ok (.ireturn, 1) := by decide +kernel
theorem dX1_answerTo_21 : decode cX1_answerTo 21 = .ok (.aload 4, 2) := by decide +kernel
theorem dX1_answerTo_23 : decode cX1_answerTo 23 = .ok (.iload_n 2, 1) := by decide +kernel
theorem dX1_answerTo_24 : decode cX1_answerTo 24 = .ok (.invokevirtual 46, 3) := by decide +kernel
theorem dX1_answerTo_27 : decode cX1_answerTo 27 = .ok (.istore 5, 2) := by decide +kernel
theorem dX1_answerTo_29 : decode cX1_answerTo 29 = .ok (.aload_n 0, 1) := by decide +kernel
theorem dX1_answerTo_30 : decode cX1_answerTo 30 = .ok (.getfield 9, 3) := by decide +kernel
theorem dX1_answerTo_33 : decode cX1_answerTo 33 = .ok (.aload 4, 2) := by decide +kernel
theorem dX1_answerTo_35 : decode cX1_answerTo 35 = .ok (.getfield 67, 3) := by decide +kernel
theorem dX1_answerTo_38 : decode cX1_answerTo 38 = .ok (.iload 5, 2) := by decide +kernel
theorem dX1_answerTo_40 : decode cX1_answerTo 40 = .ok (.iaload, 1) := by decide +kernel
theorem dX1_answerTo_41 : decode cX1_answerTo 41 = .ok (.invokevirtual 98, 3) := by decide +kernel
theorem dX1_answerTo_44 : decode cX1_answerTo 44 = .ok (.ifCond .ne 5, 3) := by decide +kernel
theorem dX1_answerTo_47 : decode cX1_answerTo 47 = .ok (.iconst 2, 1) := by decide +kernel
theorem dX1_answerTo_48 : decode cX1_answerTo 48 = .ok (.ireturn, 1) := by decide +kernel
theorem dX1_answerTo_49 : decode cX1_answerTo 49 = .ok (.aload_n 0, 1) := by decide +kernel
theorem dX1_answerTo_50 : decode cX1_answerTo 50 = .ok (.getfield 9, 3) := by decide +kernel
theorem dX1_answerTo_53 : decode cX1_answerTo 53 = .ok (.getfield 29, 3) := by decide +kernel
theorem dX1_answerTo_56 : decode cX1_answerTo 56 = .ok (.iload_n 2, 1) := by decide +kernel
theorem dX1_answerTo_57 : decode cX1_answerTo 57 = .ok (.invokevirtual 46, 3) := by decide +kernel
theorem dX1_answerTo_60 : decode cX1_answerTo 60 = .ok (.istore 6, 2) := by decide +kernel
theorem dX1_answerTo_62 : decode cX1_answerTo 62 = .ok (.aload 4, 2) := by decide +kernel
theorem dX1_answerTo_64 : decode cX1_answerTo 64 = .ok (.getfield 67, 3) := by decide +kernel
theorem dX1_answerTo_67 : decode cX1_answerTo 67 = .ok (.iload 5, 2) := by decide +kernel
theorem dX1_answerTo_69 : decode cX1_answerTo 69 = .ok (.iaload, 1) := by decide +kernel
theorem dX1_answerTo_70 : decode cX1_answerTo 70 = .ok (.aload_n 0, 1) := by decide +kernel
theorem dX1_answerTo_71 : decode cX1_answerTo 71 = .ok (.getfield 9, 3) := by decide +kernel
theorem dX1_answerTo_74 : decode cX1_answerTo 74 = .ok (.getfield 29, 3) := by decide +kernel
theorem dX1_answerTo_77 : decode cX1_answerTo 77 = .ok (.getfield 67, 3) := by decide +kernel
theorem dX1_answerTo_80 : decode cX1_answerTo 80 = .ok (.iload 6, 2) := by decide +kernel
theorem dX1_answerTo_82 : decode cX1_answerTo 82 = .ok (.iaload, 1) := by decide +kernel
theorem dX1_answerTo_83 : decode cX1_answerTo 83 = .ok (.if_icmp .ne 27, 3) := by decide +kernel
theorem dX1_answerTo_86 : decode cX1_answerTo 86 = .ok (.aload 4, 2) := by decide +kernel
theorem dX1_answerTo_88 : decode cX1_answerTo 88 = .ok (.getfield 54, 3) := by decide +kernel
theorem dX1_answerTo_91 : decode cX1_answerTo 91 = .ok (.iload 5, 2) := by decide +kernel
theorem dX1_answerTo_93 : decode cX1_answerTo 93 = .ok (.iaload, 1) := by decide +kernel
theorem dX1_answerTo_94 : decode cX1_answerTo 94 = .ok (.aload_n 0, 1) := by decide +kernel
theorem dX1_answerTo_95 : decode cX1_answerTo 95 = .ok (.getfield 9, 3) := by decide +kernel
theorem dX1_answerTo_98 : decode cX1_answerTo 98 = .ok (.getfield 29, 3) := by decide +kernel
theorem dX1_answerTo_101 : decode cX1_answerTo 101 = .ok (.getfield 54, 3) := by decide +kernel
theorem dX1_answerTo_104 : decode cX1_answerTo 104 = .ok (.iload 6, 2) := by decide +kernel
theorem dX1_answerTo_106 : decode cX1_answerTo 106 = .ok (.iaload, 1) := by decide +kernel
theorem dX1_answerTo_107 : decode cX1_answerTo 107 = .ok (.if_icmp .eq 5, 3) := by decide +kernel
theorem dX1_answerTo_110 : decode cX1_answerTo 110 = .ok (.iconst 3, 1) := by decide +kernel
theorem dX1_answerTo_111 : decode cX1_answerTo 111 = .ok (.ireturn, 1) := by decide +kernel
theorem dX1_answerTo_112 : decode cX1_answerTo 112 = .ok (.aload_n 0, 1) := by decide +kernel
theorem dX1_answerTo_113 : decode cX1_answerTo 113 = .ok (.getfield 9, 3) := by decide +kernel
theorem dX1_answerTo_116 : decode cX1_answerTo 116 = .ok (.aload_n 0, 1) := by decide +kernel
theorem dX1_answerTo_117 : decode cX1_answerTo 117 = .ok (.getfield 9, 3) := by decide +kernel
theorem dX1_answerTo_120 : decode cX1_answerTo 120 = .ok (.getfield 29, 3) := by decide +kernel
theorem dX1_answerTo_123 : decode cX1_answerTo 123 = .ok (.getfield 79, 3) := by decide +kernel
theorem dX1_answerTo_126 : decode cX1_answerTo 126 = .ok (.iload 6, 2) := by decide +kernel
theorem dX1_answerTo_128 : decode cX1_answerTo 128 = .ok (.iaload, 1) := by decide +kernel
theorem dX1_answerTo_129 : decode cX1_answerTo 129 = .ok (.invokevirtual 82, 3) := by decide +kernel
theorem dX1_answerTo_132 : decode cX1_answerTo 132 = .ok (.istore 7, 2) := by decide +kernel
theorem dX1_answerTo_134 : decode cX1_answerTo 134 = .ok (.iload_n 3, 1) := by decide +kernel
theorem dX1_answerTo_135 : decode cX1_answerTo 135 = .ok (.ifCond .eq 28, 3) := by decide +kernel
theorem dX1_answerTo_138 : decode cX1_answerTo 138 = .ok (.iload 7, 2) := by decide +kernel
theorem dX1_answerTo_140 : decode cX1_answerTo 140 = .ok (.iconst (-1), 1) := by decide +kernel
theorem dX1_answerTo_141 : decode cX1_answerTo 141 = .ok (.if_icmp .eq 22, 3) := by decide +kernel
theorem dX1_answerTo_144 : decode cX1_answerTo 144 = .ok (.aload_n 0, 1) := by decide +kernel
theorem dX1_answerTo_145 : decode cX1_answerTo 145 = .ok (.getfield 9, 3) := by decide +kernel
theorem dX1_answerTo_148 : decode cX1_answerTo 148 = .ok (.getfield 85, 3) := by decide +kernel
theorem dX1_answerTo_151 : decode cX1_answerTo 151 = .ok (.iload 7, 2) := by decide +kernel
theorem dX1_answerTo_153 : decode cX1_answerTo 153 = .ok (.aaload, 1) := by decide +kernel
theorem dX1_answerTo_154 : decode cX1_answerTo 154 = .ok (.iload_n 2, 1) := by decide +kernel
theorem dX1_answerTo_155 : decode cX1_answerTo 155 = .ok (.invokevirtual 101, 3) := by decide +kernel
theorem dX1_answerTo_158 : decode cX1_answerTo 158 = .ok (.ifCond .eq 5, 3) := by decide +kernel
theorem dX1_answerTo_161 : decode cX1_answerTo 161 = .ok (.iconst 4, 1) := by decide +kernel
theorem dX1_answerTo_162 : decode cX1_answerTo 162 = .ok (.ireturn, 1) := by decide +kernel
theorem dX1_answerTo_163 : decode cX1_answerTo 163 = .ok (.iconst 0, 1) := by decide +kernel
theorem dX1_answerTo_164 : decode cX1_answerTo 164 = .ok (.ireturn, 1) := by decide +kernel
theorem dX2_init_0 : decode cX2_init 0 = .ok (.aload_n 0, 1) := by decide +kernel
theorem dX2_init_1 : decode cX2_init 1 = .ok (.invokespecial 3, 3) := by decide +kernel
theorem dX2_init_4 : decode cX2_init 4 = .ok (.aload_n 0, 1) := by decide +kernel
theorem dX2_init_5 : decode cX2_init 5 = .ok (.aload_n 1, 1) := by decide +kernel
theorem dX2_init_6 : decode cX2_init 6 = .ok (.putfield 9, 3) := by decide +kernel
theorem dX2_init_9 : decode cX2_init 9 = .ok (.aload_n 0, 1) := by decide +kernel
theorem dX2_init_10 : decode cX2_init 10 = .ok (.aload_n 2, 1) := by decide +kernel
theorem dX2_init_11 : decode cX2_init 11 = .ok (.putfield 15, 3) := by decide +kernel
theorem dX2_init_14 : decode cX2_init 14 = .ok (.aload_n 0, 1) := by decide +kernel
theorem dX2_init_15 : decode cX2_init 15 = .ok (.aload_n 3, 1) := by decide +kernel
theorem dX2_init_16 : decode cX2_init 16 = .ok (.putfield 19, 3) := by decide +kernel
theorem dX2_init_19 : decode cX2_init 19 = .ok (.return_, 1) := by decide +kernel
theorem dX2_cutAt_0 : decode cX2_cutAt 0 = .ok (.aload_n 0, 1) := by decide +kernel
theorem dX2_cutAt_1 : decode cX2_cutAt 1 = .ok (.getfield 9, 3) := by decide +kernel
theorem dX2_cutAt_4 : decode cX2_cutAt 4 = .ok (.getfield 23, 3) := by decide +kernel
theorem dX2_cutAt_7 : decode cX2_cutAt 7 = .ok (.astore_n 3, 1) := by decide +kernel
theorem dX2_cutAt_8 : decode cX2_cutAt 8 = .ok (.aload_n 3, 1) := by decide +kernel
theorem dX2_cutAt_9 : decode cX2_cutAt 9 = .ok (.iload_n 1, 1) := by decide +kernel
theorem dX2_cutAt_10 : decode cX2_cutAt 10 = .ok (.invokevirtual 29, 3) := by decide +kernel
theorem dX2_cutAt_13 : decode cX2_cutAt 13 = .ok (.istore 4, 2) := by decide +kernel
theorem dX2_cutAt_15 : decode cX2_cutAt 15 = .ok (.iload 4, 2) := by decide +kernel
theorem dX2_cutAt_17 : decode cX2_cutAt 17 = .ok (.iconst (-1), 1) := by decide +kernel
theorem dX2_cutAt_18 : decode cX2_cutAt 18 = .ok (.if_icmp .eq 18, 3) := by decide +kernel
theorem dX2_cutAt_21 : decode cX2_cutAt 21 = .ok (.iload_n 2, 1) := by decide +kernel
theorem dX2_cutAt_22 : decode cX2_cutAt 22 = .ok (.iload_n 1, 1) := by decide +kernel
theorem dX2_cutAt_23 : decode cX2_cutAt 23 = .ok (.if_icmp .le 13, 3) := by decide +kernel
theorem dX2_cutAt_26 : decode cX2_cutAt 26 = .ok (.iload_n 2, 1) := by decide +kernel
theorem dX2_cutAt_27 : decode cX2_cutAt 27 = .ok (.aload_n 3, 1) := by decide +kernel
theorem dX2_cutAt_28 : decode cX2_cutAt 28 = .ok (.iload 4, 2) := by decide +kernel
theorem dX2_cutAt_30 : decode cX2_cutAt 30 = .ok (.invokevirtual 35, 3) := by decide +kernel
theorem dX2_cutAt_33 : decode cX2_cutAt 33 = .ok (.if_icmp .lt 5, 3) := by decide +kernel
theorem dX2_cutAt_36 : decode cX2_cutAt 36 = .ok (.iconst (-1), 1) := by decide +kernel
theorem dX2_cutAt_37 : decode cX2_cutAt 37 = .ok (.ireturn, 1) := by decide +kernel
theorem dX2_cutAt_38 : decode cX2_cutAt 38 = .ok (.aload_n 3, 1) := by decide +kernel
theorem dX2_cutAt_39 : decode cX2_cutAt 39 = .ok (.getfield 38, 3) := by decide +kernel
theorem dX2_cutAt_42 : decode cX2_cutAt 42 = .ok (.bipush 32, 2) := by decide +kernel
theorem dX2_cutAt_44 : decode cX2_cutAt 44 = .ok (.if_icmp .ge 15, 3) := by decide +kernel
theorem dX2_cutAt_47 : decode cX2_cutAt 47 = .ok (.aload_n 0, 1) := by decide +kernel
theorem dX2_cutAt_48 : decode cX2_cutAt 48 = .ok (.getfield 9, 3) := by decide +kernel
theorem dX2_cutAt_51 : decode cX2_cutAt 51 = .ok (.iload_n 1, 1) := by decide +kernel
theorem dX2_cutAt_52 : decode cX2_cutAt 52 = .ok (.invokevirtual 42, 3) := by decide +kernel
theorem dX2_cutAt_55 : decode cX2_cutAt 55 = .ok (.iconst (-1), 1) := by decide +kernel
theorem dX2_cutAt_56 : decode cX2_cutAt 56 = .ok (.if_icmp .eq 5, 3) := by decide +kernel
theorem dX2_cutAt_59 : decode cX2_cutAt 59 = .ok (.iconst (-1), 1) := by decide +kernel
theorem dX2_cutAt_60 : decode cX2_cutAt 60 = .ok (.ireturn, 1) := by decide +kernel
theorem dX2_cutAt_61 : decode cX2_cutAt 61 = .ok (.aload_n 3, 1) := by decide +kernel
theorem dX2_cutAt_62 : decode cX2_cutAt 62 = .ok (.getfield 45, 3) := by decide +kernel
theorem dX2_cutAt_65 : decode cX2_cutAt 65 = .ok (.iload 4, 2) := by decide +kernel
theorem dX2_cutAt_67 : decode cX2_cutAt 67 = .ok (.iaload, 1) := by decide +kernel
theorem dX2_cutAt_68 : decode cX2_cutAt 68 = .ok (.istore 5, 2) := by decide +kernel
theorem dX2_cutAt_70 : decode cX2_cutAt 70 = .ok (.aload_n 3, 1) := by decide +kernel
theorem dX2_cutAt_71 : decode cX2_cutAt 71 = .ok (.dup, 1) := by decide +kernel
theorem dX2_cutAt_72 : decode cX2_cutAt 72 = .ok (.getfield 49, 3) := by decide +kernel
theorem dX2_cutAt_75 : decode cX2_cutAt 75 = .ok (.iconst 1, 1) := by decide +kernel
theorem dX2_cutAt_76 : decode cX2_cutAt 76 = .ok (.iadd, 1) := by decide +kernel
theorem dX2_cutAt_77 : decode cX2_cutAt 77 = .ok (.putfield 49, 3) := by decide +kernel
theorem dX2_cutAt_80 : decode cX2_cutAt 80 = .ok (.aload_n 3, 1) := by decide +kernel
theorem dX2_cutAt_81 : decode cX2_cutAt 81 = .ok (.iload 4, 2) := by decide +kernel
theorem dX2_cutAt_83 : decode cX2_cutAt 83 = .ok (.invokevirtual 52, 3) := by decide +kernel
theorem dX2_cutAt_86 : decode cX2_cutAt 86 = .ok (.aload_n 3, 1) := by decide +kernel
theorem dX2_cutAt_87 : decode cX2_cutAt 87 = .ok (.iload 4, 2) := by decide +kernel
theorem dX2_cutAt_89 : decode cX2_cutAt 89 = .ok (.iload_n 1, 1) := by decide +kernel
theorem dX2_cutAt_90 : decode cX2_cutAt 90 = .ok (.iload 5, 2) := by decide +kernel
theorem dX2_cutAt_92 : decode cX2_cutAt 92 = .ok (.invokevirtual 56, 3) := by decide +kernel
theorem dX2_cutAt_95 : decode cX2_cutAt 95 = .ok (.aload_n 3, 1) := by decide +kernel
theorem dX2_cutAt_96 : decode cX2_cutAt 96 = .ok (.iload 4, 2) := by decide +kernel
theorem dX2_cutAt_98 : decode cX2_cutAt 98 = .ok (.iconst 1, 1) := by decide +kernel
theorem dX2_cutAt_99 : decode cX2_cutAt 99 = .ok (.iadd, 1) := by decide +kernel
theorem dX2_cutAt_100 : decode cX2_cutAt 100 = .ok (.iload_n 2, 1) := by decide +kernel
theorem dX2_cutAt_101 : decode cX2_cutAt 101 = .ok (.iload 5, 2) := by decide +kernel
theorem dX2_cutAt_103 : decode cX2_cutAt 103 = .ok (.invokevirtual 56, 3) := by decide +kernel
theorem dX2_cutAt_106 : decode cX2_cutAt 106 = .ok (.aload_n 0, 1) := by decide +kernel
theorem dX2_cutAt_107 : decode cX2_cutAt 107 = .ok (.getfield 15, 3) := by decide +kernel
theorem dX2_cutAt_110 : decode cX2_cutAt 110 = .ok (.bipush 6, 2) := by decide +kernel
theorem dX2_cutAt_112 : decode cX2_cutAt 112 = .ok (.iconst 1, 1) := by decide +kernel
theorem dX2_cutAt_113 : decode cX2_cutAt 113 = .ok (.invokevirtual 60, 3) := by decide +kernel
theorem dX2_cutAt_116 : decode cX2_cutAt 116 = .ok (.aload_n 0, 1) := by decide +kernel
theorem dX2_cutAt_117 : decode cX2_cutAt 117 = .ok (.getfield 15, 3) := by decide +kernel
theorem dX2_cutAt_120 : decode cX2_cutAt 120 = .ok (.aload_n 3, 1) := by decide +kernel
theorem dX2_cutAt_121 : decode cX2_cutAt 121 = .ok (.getfield 49, 3) := by decide +kernel
theorem dX2_cutAt_124 : decode cX2_cutAt 124 = .ok (.iconst 1, 1) := by decide +kernel
theorem dX2_cutAt_125 : decode cX2_cutAt 125 = .ok (.iload_n 1, 1) := by decide +kernel
theorem dX2_cutAt_126 : decode cX2_cutAt 126 = .ok (.iload 5, 2) := by decide +kernel
theorem dX2_cutAt_128 : decode cX2_cutAt 128 = .ok (.invokevirtual 66, 3) := by decide +kernel
theorem dX2_cutAt_131 : decode cX2_cutAt 131 = .ok (.aload_n 3, 1) := by decide +kernel
theorem dX2_cutAt_132 : decode cX2_cutAt 132 = .ok (.getfield 49, 3) := by decide +kernel
theorem dX2_cutAt_135 : decode cX2_cutAt 135 = .ok (.ireturn, 1) := by decide +kernel
theorem dX2_cutInMiddle_0 : decode cX2_cutInMiddle 0 = .ok (.aload_n 0, 1) := by decide +kernel
theorem dX2_cutInMiddle_1 : decode cX2_cutInMiddle 1 = .ok (.getfield 9, 3) := by decide +kernel
theorem dX2_cutInMiddle_4 : decode cX2_cutInMiddle 4 = .ok (.getfield 23, 3) := by decide +kernel
theorem dX2_cutInMiddle_7 : decode cX2_cutInMiddle 7 = .ok (.iload_n 1, 1) := by decide +kernel
theorem dX2_cutInMiddle_8 : decode cX2_cutInMiddle 8 = .ok (.invokevirtual 29, 3) := by decide +kernel
theorem dX2_cutInMiddle_11 : decode cX2_cutInMiddle 11 = .ok (.istore_n 2, 1) := by decide +kernel
theorem dX2_cutInMiddle_12 : decode cX2_cutInMiddle 12 = .ok (.iload_n 2, 1) := by decide +kernel
theorem dX2_cutInMiddle_13 : decode cX2_cutInMiddle 13 = .ok (.iconst (-1), 1) := by decide +kernel
theorem dX2_cutInMiddle_14 : decode cX2_cutInMiddle 14 = .ok (.if_icmp .ne 5, 3) := by decide +kernel
theorem dX2_cutInMiddle_17 : decode cX2_cutInMiddle 17 = .ok (.iconst (-1), 1) := by decide +kernel
theorem dX2_cutInMiddle_18 : decode cX2_cutInMiddle 18 = .ok (.ireturn, 1) := by decide +kernel
theorem dX2_cutInMiddle_19 : decode cX2_cutInMiddle 19 = .ok (.aload_n 0, 1) := by decide +kernel
theorem dX2_cutInMiddle_20 : decode cX2_cutInMiddle 20 = .ok (.getfield 19, 3) := by decide +kernel
theorem dX2_cutInMiddle_23 : decode cX2_cutInMiddle 23 = .ok (.aload_n 0, 1) := by decide +kernel
theorem dX2_cutInMiddle_24 : decode cX2_cutInMiddle 24 = .ok (.getfield 9, 3) := by decide +kernel
theorem dX2_cutInMiddle_27 : decode cX2_cutInMiddle 27 = .ok (.invokevirtual 70, 3) := by decide +kernel
theorem dX2_cutInMiddle_30 : decode cX2_cutInMiddle 30 = .ok (.aload_n 0, 1) := by decide +kernel
theorem dX2_cutInMiddle_31 : decode cX2_cutInMiddle 31 = .ok (.getfield 19, 3) := by decide +kernel
theorem dX2_cutInMiddle_34 : decode cX2_cutInMiddle 34 = .ok (.iload_n 2, 1) := by decide +kernel
theorem dX2_cutInMiddle_35 : decode cX2_cutInMiddle 35 = .ok (.invokevirtual 76, 3) := by decide +kernel
theorem dX2_cutInMiddle_38 : decode cX2_cutInMiddle 38 = .ok (.istore_n 3, 1) := by decide +kernel
theorem dX2_cutInMiddle_39 : decode cX2_cutInMiddle 39 = .ok (.iload_n 3, 1) := by decide +kernel
theorem dX2_cutInMiddle_40 : decode cX2_cutInMiddle 40 = .ok (.iconst (-1), 1) := by decide +kernel
theorem dX2_cutInMiddle_41 : decode cX2_cutInMiddle 41 = .ok (.if_icmp .eq 13, 3) := by decide +kernel
theorem dX2_cutInMiddle_44 : decode cX2_cutInMiddle 44 = .ok (.aload_n 0, 1) := by decide +kernel
theorem dX2_cutInMiddle_45 : decode cX2_cutInMiddle 45 = .ok (.iload_n 1, 1) := by decide +kernel
theorem dX2_cutInMiddle_46 : decode cX2_cutInMiddle 46 = .ok (.iload_n 3, 1) := by decide +kernel
theorem dX2_cutInMiddle_47 : decode cX2_cutInMiddle 47 = .ok (.invokevirtual 79, 3) := by decide +kernel
theorem dX2_cutInMiddle_50 : decode cX2_cutInMiddle 50 = .ok (.iconst (-1), 1) := by decide +kernel
theorem dX2_cutInMiddle_51 : decode cX2_cutInMiddle 51 = .ok (.if_icmp .ne 5, 3) := by decide +kernel
theorem dX2_cutInMiddle_54 : decode cX2_cutInMiddle 54 = .ok (.iconst (-1), 1) := by decide +kernel
theorem dX2_cutInMiddle_55 : decode cX2_cutInMiddle 55 = .ok (.ireturn, 1) := by decide +kernel
theorem dX2_cutInMiddle_56 : decode cX2_cutInMiddle 56 = .ok (.iload_n 3, 1) := by decide +kernel
theorem dX2_cutInMiddle_57 : decode cX2_cutInMiddle 57 = .ok (.ireturn, 1) := by decide +kernel
theorem dX2_joinWithNext_0 : decode cX2_joinWithNext 0 = .ok (.aload_n 0, 1) := by decide +kernel
theorem dX2_joinWithNext_1 : decode cX2_joinWithNext 1 = .ok (.getfield 9, 3) := by decide +kernel
theorem dX2_joinWithNext_4 : decode cX2_joinWithNext 4 = .ok (.getfield 23, 3) := by decide +kernel
theorem dX2_joinWithNext_7 : decode cX2_joinWithNext 7 = .ok (.astore_n 2, 1) := by decide +kernel
theorem dX2_joinWithNext_8 : decode cX2_joinWithNext 8 = .ok (.aload_n 2, 1) := by decide +kernel
theorem dX2_joinWithNext_9 : decode cX2_joinWithNext 9 = .ok (.iload_n 1, 1) := by decide +kernel
theorem dX2_joinWithNext_10 : decode cX2_joinWithNext 10 = .ok (.invokevirtual 29, 3) := by decide +kernel
theorem dX2_joinWithNext_13 : decode cX2_joinWithNext 13 = .ok (.istore_n 3, 1) := by decide +kernel
theorem dX2_joinWithNext_14 : decode cX2_joinWithNext 14 = .ok (.iload_n 3, 1) := by decide +kernel
theorem dX2_joinWithNext_15 : decode cX2_joinWithNext 15 = .ok (.iconst (-1), 1) := by decide +kernel
theorem dX2_joinWithNext_16 : decode cX2_joinWithNext 16 = .ok (.if_icmp .eq 30, 3) := by decide +kernel
theorem dX2_joinWithNext_19 : decode cX2_joinWithNext 19 = .ok (.iload_n 3, 1) := by decide +kernel
theorem dX2_joinWithNext_20 : decode cX2_joinWithNext 20 = .ok (.iconst 1, 1) := by decide +kernel
theorem dX2_joinWithNext_21 : decode cX2_joinWithNext 21 = .ok (.iadd, 1) := by decide +kernel
theorem dX2_joinWithNext_22 : decode cX2_joinWithNext 22 = .ok (.aload_n 2, 1) := by decide +kernel
theorem dX2_joinWithNext_23 : decode cX2_joinWithNext 23 = .ok (.getfield 38, 3) := by decide +kernel
theorem dX2_joinWithNext_26 : decode cX2_joinWithNext 26 = .ok (.if_icmp .ge 20, 3) := by decide +kernel
theorem dX2_joinWithNext_29 : decode cX2_joinWithNext 29 = .ok (.aload_n 2, 1) := by decide +kernel
theorem dX2_joinWithNext_30 : decode cX2_joinWithNext 30 = .ok (.getfield 45, 3) := by decide +kernel
theorem dX2_joinWithNext_33 : decode cX2_joinWithNext 33 = .ok (.iload_n 3, 1) := by decide +kernel
theorem dX2_joinWithNext_34 : decode cX2_joinWithNext 34 = .ok (.iaload, 1) := by decide +kernel
theorem dX2_joinWithNext_35 : decode cX2_joinWithNext 35 = .ok (.aload_n 2, 1) := by decide +kernel
theorem dX2_joinWithNext_36 : decode cX2_joinWithNext 36 = .ok (.getfield 45, 3) := by decide +kernel
theorem dX2_joinWithNext_39 : decode cX2_joinWithNext 39 = .ok (.iload_n 3, 1) := by decide +kernel
theorem dX2_joinWithNext_40 : decode cX2_joinWithNext 40 = .ok (.iconst 1, 1) := by decide +kernel
theorem dX2_joinWithNext_41 : decode cX2_joinWithNext 41 = .ok (.iadd, 1) := by decide +kernel
theorem dX2_joinWithNext_42 : decode cX2_joinWithNext 42 = .ok (.iaload, 1) := by decide +kernel
theorem dX2_joinWithNext_43 : decode cX2_joinWithNext 43 = .ok (.if_icmp .eq 5, 3) := by decide +kernel
theorem dX2_joinWithNext_46 : decode cX2_joinWithNext 46 = .ok (.iconst (-1), 1) := by decide +kernel
theorem dX2_joinWithNext_47 : decode cX2_joinWithNext 47 = .ok (.ireturn, 1) := by decide +kernel
theorem dX2_joinWithNext_48 : decode cX2_joinWithNext 48 = .ok (.aload_n 0, 1) := by decide +kernel
theorem dX2_joinWithNext_49 : decode cX2_joinWithNext 49 = .ok (.getfield 9, 3) := by decide +kernel
theorem dX2_joinWithNext_52 : decode cX2_joinWithNext 52 = .ok (.iload_n 1, 1) := by decide +kernel
theorem dX2_joinWithNext_53 : decode cX2_joinWithNext 53 = .ok (.invokevirtual 42, 3) := by decide +kernel
theorem dX2_joinWithNext_56 : decode cX2_joinWithNext 56 = .ok (.iconst (-1), 1) := by decide +kernel
theorem dX2_joinWithNext_57 : decode cX2_joinWithNext 57 = .ok (.if_icmp .ne 22, 3) := by decide +kernel
theorem dX2_joinWithNext_60 : decode cX2_joinWithNext 60 = .ok (.aload_n 0, 1) := by decide +kernel
theorem dX2_joinWithNext_61 : decode cX2_joinWithNext 61 = .ok (.getfield 9, 3) := by decide +kernel
theorem dX2_joinWithNext_64 : decode cX2_joinWithNext 64 = .ok (.aload_n 2, 1) := by decide +kernel
theorem dX2_joinWithNext_65 : decode cX2_joinWithNext 65 = .ok (.getfield 83, 3) := by decide +kernel
theorem dX2_joinWithNext_68 : decode cX2_joinWithNext 68 = .ok (.iload_n 3, 1) := by decide +kernel
theorem dX2_joinWithNext_69 : decode cX2_joinWithNext 69 = .ok (.iconst 1, 1) := by decide +kernel
theorem dX2_joinWithNext_70 : decode cX2_joinWithNext 70 = .ok (.iadd, 1) := by decide +kernel
theorem dX2_joinWithNext_71 : decode cX2_joinWithNext 71 = .ok (.iaload, 1) := by decide +kernel
theorem dX2_joinWithNext_72 : decode cX2_joinWithNext 72 = .ok (.invokevirtual 42, 3) := by decide +kernel
theorem dX2_joinWithNext_75 : decode cX2_joinWithNext 75 = .ok (.iconst (-1), 1) := by decide +kernel
theorem dX2_joinWithNext_76 : decode cX2_joinWithNext 76 = .ok (.if_icmp .eq 5, 3) := by decide +kernel
theorem dX2_joinWithNext_79 : decode cX2_joinWithNext 79 = .ok (.iconst (-1), 1) := by decide +kernel
theorem dX2_joinWithNext_80 : decode cX2_joinWithNext 80 = .ok (.ireturn, 1) := by decide +kernel
theorem dX2_joinWithNext_81 : decode cX2_joinWithNext 81 = .ok (.aload_n 2, 1) := by decide +kernel
theorem dX2_joinWithNext_82 : decode cX2_joinWithNext 82 = .ok (.getfield 45, 3) := by decide +kernel
theorem dX2_joinWithNext_85 : decode cX2_joinWithNext 85 = .ok (.iload_n 3, 1) := by decide +kernel
theorem dX2_joinWithNext_86 : decode cX2_joinWithNext 86 = .ok (.iaload, 1) := by decide +kernel
theorem dX2_joinWithNext_87 : decode cX2_joinWithNext 87 = .ok (.istore 4, 2) := by decide +kernel
theorem dX2_joinWithNext_89 : decode cX2_joinWithNext 89 = .ok (.aload_n 2, 1) := by decide +kernel
theorem dX2_joinWithNext_90 : decode cX2_joinWithNext 90 = .ok (.dup, 1) := by decide +kernel
theorem dX2_joinWithNext_91 : decode cX2_joinWithNext 91 = .ok (.getfield 49, 3) := by decide +kernel
theorem dX2_joinWithNext_94 : decode cX2_joinWithNext 94 = .ok (.iconst 1, 1) := by decide +kernel
theorem dX2_joinWithNext_95 : decode cX2_joinWithNext 95 = .ok (.iadd, 1) := by decide +kernel
theorem dX2_joinWithNext_96 : decode cX2_joinWithNext 96 = .ok (.putfield 49, 3) := by decide +kernel
theorem dX2_joinWithNext_99 : decode cX2_joinWithNext 99 = .ok (.aload_n 2, 1) := by decide +kernel
theorem dX2_joinWithNext_100 : decode cX2_joinWithNext 100 = .ok (.iload_n 3, 1) := by decide +kernel
theorem dX2_joinWithNext_101 : decode cX2_joinWithNext 101 = .ok (.invokevirtual 86, 3) := by decide +kernel
theorem dX2_joinWithNext_104 : decode cX2_joinWithNext 104 = .ok (.aload_n 2, 1) := by decide +kernel
theorem dX2_joinWithNext_105 : decode cX2_joinWithNext 105 = .ok (.iload_n 3, 1) := by decide +kernel
theorem dX2_joinWithNext_106 : decode cX2_joinWithNext 106 = .ok (.iload_n 1, 1) := by decide +kernel
theorem dX2_joinWithNext_107 : decode cX2_joinWithNext 107 = .ok (.iload 4, 2) := by decide +kernel
theorem dX2_joinWithNext_109 : decode cX2_joinWithNext 109 = .ok (.invokevirtual 56, 3) := by decide +kernel
theorem dX2_joinWithNext_112 : decode cX2_joinWithNext 112 = .ok (.aload_n 0, 1) := by decide +kernel
theorem dX2_joinWithNext_113 : decode cX2_joinWithNext 113 = .ok (.getfield 15, 3) := by decide +kernel
theorem dX2_joinWithNext_116 : decode cX2_joinWithNext 116 = .ok (.bipush 7, 2) := by decide +kernel
theorem dX2_joinWithNext_118 : decode cX2_joinWithNext 118 = .ok (.iconst 1, 1) := by decide +kernel
theorem dX2_joinWithNext_119 : decode cX2_joinWithNext 119 = .ok (.invokevirtual 60, 3) := by decide +kernel
theorem dX2_joinWithNext_122 : decode cX2_joinWithNext 122 = .ok (.aload_n 0, 1) := by decide +kernel
theorem dX2_joinWithNext_123 : decode cX2_joinWithNext 123 = .ok (.getfield 15, 3) := by decide +kernel
theorem dX2_joinWithNext_126 : decode cX2_joinWithNext 126 = .ok (.aload_n 2, 1) := by decide +kernel
theorem dX2_joinWithNext_127 : decode cX2_joinWithNext 127 = .ok (.getfield 49, 3) := by decide +kernel
theorem dX2_joinWithNext_130 : decode cX2_joinWithNext 130 = .ok (.iconst 2, 1) := by decide +kernel
theorem dX2_joinWithNext_131 : decode cX2_joinWithNext 131 = .ok (.iload_n 1, 1) := by decide +kernel
theorem dX2_joinWithNext_132 : decode cX2_joinWithNext 132 = .ok (.iload 4, 2) := by decide +kernel
theorem dX2_joinWithNext_134 : decode cX2_joinWithNext 134 = .ok (.invokevirtual 66, 3) := by decide +kernel
theorem dX2_joinWithNext_137 : decode cX2_joinWithNext 137 = .ok (.aload_n 2, 1) := by decide +kernel
theorem dX2_joinWithNext_138 : decode cX2_joinWithNext 138 = .ok (.getfield 49, 3) := by decide +kernel
theorem dX2_joinWithNext_141 : decode cX2_joinWithNext 141 = .ok (.ireturn, 1) := by decide +kernel
theorem dX3_init_0 : decode cX3_init 0 = .ok (.aload_n 0, 1) := by decide +kernel
theorem dX3_init_1 : decode cX3_init 1 = .ok (.invokespecial 3, 3) := by decide +kernel
theorem dX3_init_4 : decode cX3_init 4 = .ok (.aload_n 0, 1) := by decide +kernel
theorem dX3_init_5 : decode cX3_init 5 = .ok (.bipush 15, 2) := by decide +kernel
theorem dX3_init_7 : decode cX3_init 7 = .ok (.newarray .int, 2) := by decide +kernel
theorem dX3_init_9 : decode cX3_init 9 = .ok (.putfield 9, 3) := by decide +kernel
theorem dX3_init_12 : decode cX3_init 12 = .ok (.aload_n 0, 1) := by decide +kernel
theorem dX3_init_13 : decode cX3_init 13 = .ok (.bipush 6, 2) := by decide +kernel
theorem dX3_init_15 : decode cX3_init 15 = .ok (.newarray .int, 2) := by decide +kernel
theorem dX3_init_17 : decode cX3_init 17 = .ok (.putfield 15, 3) := by decide +kernel
theorem dX3_init_20 : decode cX3_init 20 = .ok (.aload_n 0, 1) := by decide +kernel
theorem dX3_init_21 : decode cX3_init 21 = .ok (.bipush 6, 2) := by decide +kernel
theorem dX3_init_23 : decode cX3_init 23 = .ok (.newarray .int, 2) := by decide +kernel
theorem dX3_init_25 : decode cX3_init 25 = .ok (.putfield 18, 3) := by decide +kernel
theorem dX3_init_28 : decode cX3_init 28 = .ok (.aload_n 0, 1) := by decide +kernel
theorem dX3_init_29 : decode cX3_init 29 = .ok (.bipush 6, 2) := by decide +kernel
theorem dX3_init_31 : decode cX3_init 31 = .ok (.newarray .int, 2) := by decide +kernel
theorem dX3_init_33 : decode cX3_init 33 = .ok (.putfield 21, 3) := by decide +kernel
theorem dX3_init_36 : decode cX3_init 36 = .ok (.aload_n 0, 1) := by decide +kernel
theorem dX3_init_37 : decode cX3_init 37 = .ok (.bipush 6, 2) := by decide +kernel
theorem dX3_init_39 : decode cX3_init 39 = .ok (.newarray .int, 2) := by decide +kernel
theorem dX3_init_41 : decode cX3_init 41 = .ok (.putfield 24, 3) := by decide +kernel
theorem dX3_init_44 : decode cX3_init 44 = .ok (.aload_n 0, 1) := by decide +kernel
theorem dX3_init_45 : decode cX3_init 45 = .ok (.sipush 2048, 3) := by decide +kernel
theorem dX3_init_48 : decode cX3_init 48 = .ok (.newarray .int, 2) := by decide +kernel
theorem dX3_init_50 : decode cX3_init 50 = .ok (.putfield 27, 3) := by decide +kernel
theorem dX3_init_53 : decode cX3_init 53 = .ok (.return_, 1) := by decide +kernel
theorem dX3_add_0 : decode cX3_add 0 = .ok (.aload_n 0, 1) := by decide +kernel
theorem dX3_add_1 : decode cX3_add 1 = .ok (.getfield 9, 3) := by decide +kernel
theorem dX3_add_4 : decode cX3_add 4 = .ok (.iload_n 1, 1) := by decide +kernel
theorem dX3_add_5 : decode cX3_add 5 = .ok (.dup2, 1) := by decide +kernel
theorem dX3_add_6 : decode cX3_add 6 = .ok (.iaload, 1) := by decide +kernel
theorem dX3_add_7 : decode cX3_add 7 = .ok (.iload_n 2, 1) := by decide +kernel
theorem dX3_add_8 : decode cX3_add 8 = .ok (.iadd, 1) := by decide +kernel
theorem dX3_add_9 : decode cX3_add 9 = .ok (.iastore, 1) := by decide +kernel
theorem dX3_add_10 : decode cX3_add 10 = .ok (.return_, 1) := by decide +kernel
theorem dX3_noteAnswer_0 : decode cX3_noteAnswer 0 = .ok (.aload_n 0, 1) := by decide +kernel
theorem dX3_noteAnswer_1 : decode cX3_noteAnswer 1 = .ok (.getfield 15, 3) := by decide +kernel
theorem dX3_noteAnswer_4 : decode cX3_noteAnswer 4 = .ok (.iload_n 1, 1) := by decide +kernel
theorem dX3_noteAnswer_5 : decode cX3_noteAnswer 5 = .ok (.dup2, 1) := by decide +kernel
theorem dX3_noteAnswer_6 : decode cX3_noteAnswer 6 = .ok (.iaload, 1) := by decide +kernel
theorem dX3_noteAnswer_7 : decode cX3_noteAnswer 7 = .ok (.iconst 1, 1) := by decide +kernel
theorem dX3_noteAnswer_8 : decode cX3_noteAnswer 8 = .ok (.iadd, 1) := by decide +kernel
theorem dX3_noteAnswer_9 : decode cX3_noteAnswer 9 = .ok (.iastore, 1) := by decide +kernel
theorem dX3_noteAnswer_10 : decode cX3_noteAnswer 10 = .ok (.iload_n 2, 1) := by decide +kernel
theorem dX3_noteAnswer_11 : decode cX3_noteAnswer 11 = .ok (.ifCond .ne 24, 3) := by decide +kernel
theorem dX3_noteAnswer_14 : decode cX3_noteAnswer 14 = .ok (.aload_n 0, 1) := by decide +kernel
theorem dX3_noteAnswer_15 : decode cX3_noteAnswer 15 = .ok (.getfield 18, 3) := by decide +kernel
theorem dX3_noteAnswer_18 : decode cX3_noteAnswer 18 = .ok (.iload_n 1, 1) := by decide +kernel
theorem dX3_noteAnswer_19 : decode cX3_noteAnswer 19 = .ok (.dup2, 1) := by decide +kernel
theorem dX3_noteAnswer_20 : decode cX3_noteAnswer 20 = .ok (.iaload, 1) := by decide +kernel
theorem dX3_noteAnswer_21 : decode cX3_noteAnswer 21 = .ok (.iconst 1, 1) := by decide +kernel
theorem dX3_noteAnswer_22 : decode cX3_noteAnswer 22 = .ok (.iadd, 1) := by decide +kernel
theorem dX3_noteAnswer_23 : decode cX3_noteAnswer 23 = .ok (.iastore, 1) := by decide +kernel
theorem dX3_noteAnswer_24 : decode cX3_noteAnswer 24 = .ok (.aload_n 0, 1) := by decide +kernel
theorem dX3_noteAnswer_25 : decode cX3_noteAnswer 25 = .ok (.getfield 9, 3) := by decide +kernel
theorem dX3_noteAnswer_28 : decode cX3_noteAnswer 28 = .ok (.iload_n 3, 1) := by decide +kernel
theorem dX3_noteAnswer_29 : decode cX3_noteAnswer 29 = .ok (.dup2, 1) := by decide +kernel
theorem dX3_noteAnswer_30 : decode cX3_noteAnswer 30 = .ok (.iaload, 1) := by decide +kernel
theorem dX3_noteAnswer_31 : decode cX3_noteAnswer 31 = .ok (.iconst 1, 1) := by decide +kernel
theorem dX3_noteAnswer_32 : decode cX3_noteAnswer 32 = .ok (.iadd, 1) := by decide +kernel
theorem dX3_noteAnswer_33 : decode cX3_noteAnswer 33 = .ok (.iastore, 1) := by decide +kernel
theorem dX3_noteAnswer_34 : decode cX3_noteAnswer 34 = .ok (.return_, 1) := by decide +kernel
theorem dX3_noteAnswer_35 : decode cX3_noteAnswer 35 = .ok (.aload_n 0, 1) := by decide +kernel
theorem dX3_noteAnswer_36 : decode cX3_noteAnswer 36 = .ok (.getfield 9, 3) := by decide +kernel
theorem dX3_noteAnswer_39 : decode cX3_noteAnswer 39 = .ok (.iconst 1, 1) := by decide +kernel
theorem dX3_noteAnswer_40 : decode cX3_noteAnswer 40 = .ok (.iload_n 2, 1) := by decide +kernel
theorem dX3_noteAnswer_41 : decode cX3_noteAnswer 41 = .ok (.iadd, 1) := by decide +kernel
theorem dX3_noteAnswer_42 : decode cX3_noteAnswer 42 = .ok (.dup2, 1) := by decide +kernel
theorem dX3_noteAnswer_43 : decode cX3_noteAnswer 43 = .ok (.iaload, 1) := by decide +kernel
theorem dX3_noteAnswer_44 : decode cX3_noteAnswer 44 = .ok (.iconst 1, 1) := by decide +kernel
theorem dX3_noteAnswer_45 : decode cX3_noteAnswer 45 = .ok (.iadd, 1) := by decide +kernel
theorem dX3_noteAnswer_46 : decode cX3_noteAnswer 46 = .ok (.iastore, 1) := by decide +kernel
theorem dX3_noteAnswer_47 : decode cX3_noteAnswer 47 = .ok (.iload_n 2, 1) := by decide +kernel
theorem dX3_noteAnswer_48 : decode cX3_noteAnswer 48 = .ok (.iconst 3, 1) := by decide +kernel
theorem dX3_noteAnswer_49 : decode cX3_noteAnswer 49 = .ok (.if_icmp .ne 21, 3) := by decide +kernel
theorem dX3_noteAnswer_52 : decode cX3_noteAnswer 52 = .ok (.aload_n 0, 1) := by decide +kernel
theorem dX3_noteAnswer_53 : decode cX3_noteAnswer 53 = .ok (.getfield 21, 3) := by decide +kernel
theorem dX3_noteAnswer_56 : decode cX3_noteAnswer 56 = .ok (.iload_n 1, 1) := by decide +kernel
theorem dX3_noteAnswer_57 : decode cX3_noteAnswer 57 = .ok (.dup2, 1) := by decide +kernel
theorem dX3_noteAnswer_58 : decode cX3_noteAnswer 58 = .ok (.iaload, 1) := by decide +kernel
theorem dX3_noteAnswer_59 : decode cX3_noteAnswer 59 = .ok (.iconst 1, 1) := by decide +kernel
theorem dX3_noteAnswer_60 : decode cX3_noteAnswer 60 = .ok (.iadd, 1) := by decide +kernel
theorem dX3_noteAnswer_61 : decode cX3_noteAnswer 61 = .ok (.iastore, 1) := by decide +kernel
theorem dX3_noteAnswer_62 : decode cX3_noteAnswer 62 = .ok (.aload_n 0, 1) := by decide +kernel
theorem dX3_noteAnswer_63 : decode cX3_noteAnswer 63 = .ok (.getfield 24, 3) := by decide +kernel
theorem dX3_noteAnswer_66 : decode cX3_noteAnswer 66 = .ok (.iload_n 1, 1) := by decide +kernel
theorem dX3_noteAnswer_67 : decode cX3_noteAnswer 67 = .ok (.iload 4, 2) := by decide +kernel
theorem dX3_noteAnswer_69 : decode cX3_noteAnswer 69 = .ok (.iastore, 1) := by decide +kernel
theorem dX3_noteAnswer_70 : decode cX3_noteAnswer 70 = .ok (.return_, 1) := by decide +kernel
theorem dX3_noteChange_0 : decode cX3_noteChange 0 = .ok (.iload_n 1, 1) := by decide +kernel
theorem dX3_noteChange_1 : decode cX3_noteChange 1 = .ok (.ifCond .lt 27, 3) := by decide +kernel
theorem dX3_noteChange_4 : decode cX3_noteChange 4 = .ok (.iload_n 1, 1) := by decide +kernel
theorem dX3_noteChange_5 : decode cX3_noteChange 5 = .ok (.sipush 2048, 3) := by decide +kernel
theorem dX3_noteChange_8 : decode cX3_noteChange 8 = .ok (.if_icmp .ge 20, 3) := by decide +kernel
theorem dX3_noteChange_11 : decode cX3_noteChange 11 = .ok (.aload_n 0, 1) := by decide +kernel
theorem dX3_noteChange_12 : decode cX3_noteChange 12 = .ok (.getfield 27, 3) := by decide +kernel
theorem dX3_noteChange_15 : decode cX3_noteChange 15 = .ok (.iload_n 1, 1) := by decide +kernel
theorem dX3_noteChange_16 : decode cX3_noteChange 16 = .ok (.iload_n 3, 1) := by decide +kernel
theorem dX3_noteChange_17 : decode cX3_noteChange 17 = .ok (.bipush 6, 2) := by decide +kernel
theorem dX3_noteChange_19 : decode cX3_noteChange 19 = .ok (.imul, 1) := by decide +kernel
theorem dX3_noteChange_20 : decode cX3_noteChange 20 = .ok (.iload 4, 2) := by decide +kernel
theorem dX3_noteChange_22 : decode cX3_noteChange 22 = .ok (.iadd, 1) := by decide +kernel
theorem dX3_noteChange_23 : decode cX3_noteChange 23 = .ok (.iconst 4, 1) := by decide +kernel
theorem dX3_noteChange_24 : decode cX3_noteChange 24 = .ok (.imul, 1) := by decide +kernel
theorem dX3_noteChange_25 : decode cX3_noteChange 25 = .ok (.iload_n 2, 1) := by decide +kernel
theorem dX3_noteChange_26 : decode cX3_noteChange 26 = .ok (.iadd, 1) := by decide +kernel
theorem dX3_noteChange_27 : decode cX3_noteChange 27 = .ok (.iastore, 1) := by decide +kernel
theorem dX3_noteChange_28 : decode cX3_noteChange 28 = .ok (.return_, 1) := by decide +kernel
theorem dX3_kindOf_0 : decode cX3_kindOf 0 = .ok (.aload_n 0, 1) := by decide +kernel
theorem dX3_kindOf_1 : decode cX3_kindOf 1 = .ok (.getfield 27, 3) := by decide +kernel
theorem dX3_kindOf_4 : decode cX3_kindOf 4 = .ok (.iload_n 1, 1) := by decide +kernel
theorem dX3_kindOf_5 : decode cX3_kindOf 5 = .ok (.iaload, 1) := by decide +kernel
theorem dX3_kindOf_6 : decode cX3_kindOf 6 = .ok (.iconst 4, 1) := by decide +kernel
theorem dX3_kindOf_7 : decode cX3_kindOf 7 = .ok (.irem, 1) := by decide +kernel
theorem dX3_kindOf_8 : decode cX3_kindOf 8 = .ok (.ireturn, 1) := by decide +kernel
theorem dX3_ownerOfChange_0 : decode cX3_ownerOfChange 0 = .ok (.aload_n 0, 1) := by decide +kernel
theorem dX3_ownerOfChange_1 : decode cX3_ownerOfChange 1 = .ok (.getfield 27, 3) := by decide +kernel
theorem dX3_ownerOfChange_4 : decode cX3_ownerOfChange 4 = .ok (.iload_n 1, 1) := by decide +kernel
theorem dX3_ownerOfChange_5 : decode cX3_ownerOfChange 5 = .ok (.iaload, 1) := by decide +kernel
theorem dX3_ownerOfChange_6 : decode cX3_ownerOfChange 6 = .ok (.iconst 4, 1) := by decide +kernel
theorem dX3_ownerOfChange_7 : decode cX3_ownerOfChange 7 = .ok (.idiv, 1) := by decide +kernel
theorem dX3_ownerOfChange_8 : decode cX3_ownerOfChange 8 = .ok (.bipush 6, 2) := by decide +kernel
theorem dX3_ownerOfChange_10 : decode cX3_ownerOfChange 10 = .ok (.irem, 1) := by decide +kernel
theorem dX3_ownerOfChange_11 : decode cX3_ownerOfChange 11 = .ok (.ireturn, 1) := by decide +kernel
theorem dX3_lowOfChange_0 : decode cX3_lowOfChange 0 = .ok (.aload_n 0, 1) := by decide +kernel
theorem dX3_lowOfChange_1 : decode cX3_lowOfChange 1 = .ok (.getfield 27, 3) := by decide +kernel
theorem dX3_lowOfChange_4 : decode cX3_lowOfChange 4 = .ok (.iload_n 1, 1) := by decide +kernel
theorem dX3_lowOfChange_5 : decode cX3_lowOfChange 5 = .ok (.iaload, 1) := by decide +kernel
theorem dX3_lowOfChange_6 : decode cX3_lowOfChange 6 = .ok (.iconst 4, 1) := by decide +kernel
theorem dX3_lowOfChange_7 : decode cX3_lowOfChange 7 = .ok (.idiv, 1) := by decide +kernel
theorem dX3_lowOfChange_8 : decode cX3_lowOfChange 8 = .ok (.bipush 6, 2) := by decide +kernel
theorem dX3_lowOfChange_10 : decode cX3_lowOfChange 10 = .ok (.idiv, 1) := by decide +kernel
theorem dX3_lowOfChange_11 : decode cX3_lowOfChange 11 = .ok (.ireturn, 1) := by decide +kernel
theorem dX3_copyFrom_0 : decode cX3_copyFrom 0 = .ok (.aload_n 1, 1) := by decide +kernel
theorem dX3_copyFrom_1 : decode cX3_copyFrom 1 = .ok (.getfield 9, 3) := by decide +kernel
theorem dX3_copyFrom_4 : decode cX3_copyFrom 4 = .ok (.iconst 0, 1) := by decide +kernel
theorem dX3_copyFrom_5 : decode cX3_copyFrom 5 = .ok (.aload_n 0, 1) := by decide +kernel
theorem dX3_copyFrom_6 : decode cX3_copyFrom 6 = .ok (.getfield 9, 3) := by decide +kernel
theorem dX3_copyFrom_9 : decode cX3_copyFrom 9 = .ok (.iconst 0, 1) := by decide +kernel
theorem dX3_copyFrom_10 : decode cX3_copyFrom 10 = .ok (.bipush 15, 2) := by decide +kernel
theorem dX3_copyFrom_12 : decode cX3_copyFrom 12 = .ok (.invokestatic 30, 3) := by decide +kernel
theorem dX3_copyFrom_15 : decode cX3_copyFrom 15 = .ok (.aload_n 1, 1) := by decide +kernel
theorem dX3_copyFrom_16 : decode cX3_copyFrom 16 = .ok (.getfield 15, 3) := by decide +kernel
theorem dX3_copyFrom_19 : decode cX3_copyFrom 19 = .ok (.iconst 0, 1) := by decide +kernel
theorem dX3_copyFrom_20 : decode cX3_copyFrom 20 = .ok (.aload_n 0, 1) := by decide +kernel
theorem dX3_copyFrom_21 : decode cX3_copyFrom 21 = .ok (.getfield 15, 3) := by decide +kernel
theorem dX3_copyFrom_24 : decode cX3_copyFrom 24 = .ok (.iconst 0, 1) := by decide +kernel
theorem dX3_copyFrom_25 : decode cX3_copyFrom 25 = .ok (.bipush 6, 2) := by decide +kernel
theorem dX3_copyFrom_27 : decode cX3_copyFrom 27 = .ok (.invokestatic 30, 3) := by decide +kernel
theorem dX3_copyFrom_30 : decode cX3_copyFrom 30 = .ok (.aload_n 1, 1) := by decide +kernel
theorem dX3_copyFrom_31 : decode cX3_copyFrom 31 = .ok (.getfield 18, 3) := by decide +kernel
theorem dX3_copyFrom_34 : decode cX3_copyFrom 34 = .ok (.iconst 0, 1) := by decide +kernel
theorem dX3_copyFrom_35 : decode cX3_copyFrom 35 = .ok (.aload_n 0, 1) := by decide +kernel
theorem dX3_copyFrom_36 : decode cX3_copyFrom 36 = .ok (.getfield 18, 3) := by decide +kernel
theorem dX3_copyFrom_39 : decode cX3_copyFrom 39 = .ok (.iconst 0, 1) := by decide +kernel
theorem dX3_copyFrom_40 : decode cX3_copyFrom 40 = .ok (.bipush 6, 2) := by decide +kernel
theorem dX3_copyFrom_42 : decode cX3_copyFrom 42 = .ok (.invokestatic 30, 3) := by decide +kernel
theorem dX3_copyFrom_45 : decode cX3_copyFrom 45 = .ok (.aload_n 1, 1) := by decide +kernel
theorem dX3_copyFrom_46 : decode cX3_copyFrom 46 = .ok (.getfield 21, 3) := by decide +kernel
theorem dX3_copyFrom_49 : decode cX3_copyFrom 49 = .ok (.iconst 0, 1) := by decide +kernel
theorem dX3_copyFrom_50 : decode cX3_copyFrom 50 = .ok (.aload_n 0, 1) := by decide +kernel
theorem dX3_copyFrom_51 : decode cX3_copyFrom 51 = .ok (.getfield 21, 3) := by decide +kernel
theorem dX3_copyFrom_54 : decode cX3_copyFrom 54 = .ok (.iconst 0, 1) := by decide +kernel
theorem dX3_copyFrom_55 : decode cX3_copyFrom 55 = .ok (.bipush 6, 2) := by decide +kernel
theorem dX3_copyFrom_57 : decode cX3_copyFrom 57 = .ok (.invokestatic 30, 3) := by decide +kernel
theorem dX3_copyFrom_60 : decode cX3_copyFrom 60 = .ok (.aload_n 1, 1) := by decide +kernel
theorem dX3_copyFrom_61 : decode cX3_copyFrom 61 = .ok (.getfield 24, 3) := by decide +kernel
theorem dX3_copyFrom_64 : decode cX3_copyFrom 64 = .ok (.iconst 0, 1) := by decide +kernel
theorem dX3_copyFrom_65 : decode cX3_copyFrom 65 = .ok (.aload_n 0, 1) := by decide +kernel
theorem dX3_copyFrom_66 : decode cX3_copyFrom 66 = .ok (.getfield 24, 3) := by decide +kernel
theorem dX3_copyFrom_69 : decode cX3_copyFrom 69 = .ok (.iconst 0, 1) := by decide +kernel
theorem dX3_copyFrom_70 : decode cX3_copyFrom 70 = .ok (.bipush 6, 2) := by decide +kernel
theorem dX3_copyFrom_72 : decode cX3_copyFrom 72 = .ok (.invokestatic 30, 3) := by decide +kernel
theorem dX3_copyFrom_75 : decode cX3_copyFrom 75 = .ok (.aload_n 1, 1) := by decide +kernel
theorem dX3_copyFrom_76 : decode cX3_copyFrom 76 = .ok (.getfield 27, 3) := by decide +kernel
theorem dX3_copyFrom_79 : decode cX3_copyFrom 79 = .ok (.iconst 0, 1) := by decide +kernel
theorem dX3_copyFrom_80 : decode cX3_copyFrom 80 = .ok (.aload_n 0, 1) := by decide +kernel
theorem dX3_copyFrom_81 : decode cX3_copyFrom 81 = .ok (.getfield 27, 3) := by decide +kernel
theorem dX3_copyFrom_84 : decode cX3_copyFrom 84 = .ok (.iconst 0, 1) := by decide +kernel
theorem dX3_copyFrom_85 : decode cX3_copyFrom 85 = .ok (.iload_n 2, 1) := by decide +kernel
theorem dX3_copyFrom_86 : decode cX3_copyFrom 86 = .ok (.iconst 1, 1) := by decide +kernel
theorem dX3_copyFrom_87 : decode cX3_copyFrom 87 = .ok (.iadd, 1) := by decide +kernel
theorem dX3_copyFrom_88 : decode cX3_copyFrom 88 = .ok (.sipush 2048, 3) := by decide +kernel
theorem dX3_copyFrom_91 : decode cX3_copyFrom 91 = .ok (.invokestatic 36, 3) := by decide +kernel
theorem dX3_copyFrom_94 : decode cX3_copyFrom 94 = .ok (.invokestatic 30, 3) := by decide +kernel
theorem dX3_copyFrom_97 : decode cX3_copyFrom 97 = .ok (.return_, 1) := by decide +kernel
theorem dX4_init_0 : decode cX4_init 0 = .ok (.aload_n 0, 1) := by decide +kernel
theorem dX4_init_1 : decode cX4_init 1 = .ok (.invokespecial 3, 3) := by decide +kernel
theorem dX4_init_4 : decode cX4_init 4 = .ok (.aload_n 0, 1) := by decide +kernel
theorem dX4_init_5 : decode cX4_init 5 = .ok (.bipush 60, 2) := by decide +kernel
theorem dX4_init_7 : decode cX4_init 7 = .ok (.newarray .int, 2) := by decide +kernel
theorem dX4_init_9 : decode cX4_init 9 = .ok (.putfield 9, 3) := by decide +kernel
theorem dX4_init_12 : decode cX4_init 12 = .ok (.return_, 1) := by decide +kernel
theorem dX4_begin_0 : decode cX4_begin 0 = .ok (.aload_n 0, 1) := by decide +kernel
theorem dX4_begin_1 : decode cX4_begin 1 = .ok (.iload_n 1, 1) := by decide +kernel
theorem dX4_begin_2 : decode cX4_begin 2 = .ok (.putfield 15, 3) := by decide +kernel
theorem dX4_begin_5 : decode cX4_begin 5 = .ok (.aload_n 0, 1) := by decide +kernel
theorem dX4_begin_6 : decode cX4_begin 6 = .ok (.iload_n 2, 1) := by decide +kernel
theorem dX4_begin_7 : decode cX4_begin 7 = .ok (.putfield 19, 3) := by decide +kernel
theorem dX4_begin_10 : decode cX4_begin 10 = .ok (.aload_n 0, 1) := by decide +kernel
theorem dX4_begin_11 : decode cX4_begin 11 = .ok (.iload_n 3, 1) := by decide +kernel
theorem dX4_begin_12 : decode cX4_begin 12 = .ok (.putfield 22, 3) := by decide +kernel
theorem dX4_begin_15 : decode cX4_begin 15 = .ok (.aload_n 0, 1) := by decide +kernel
theorem dX4_begin_16 : decode cX4_begin 16 = .ok (.iload 4, 2) := by decide +kernel
theorem dX4_begin_18 : decode cX4_begin 18 = .ok (.putfield 25, 3) := by decide +kernel
theorem dX4_begin_21 : decode cX4_begin 21 = .ok (.aload_n 0, 1) := by decide +kernel
theorem dX4_begin_22 : decode cX4_begin 22 = .ok (.iconst 1, 1) := by decide +kernel
theorem dX4_begin_23 : decode cX4_begin 23 = .ok (.putfield 28, 3) := by decide +kernel
theorem dX4_begin_26 : decode cX4_begin 26 = .ok (.aload_n 0, 1) := by decide +kernel
theorem dX4_begin_27 : decode cX4_begin 27 = .ok (.iload_n 1, 1) := by decide +kernel
theorem dX4_begin_28 : decode cX4_begin 28 = .ok (.putfield 31, 3) := by decide +kernel
theorem dX4_begin_31 : decode cX4_begin 31 = .ok (.aload_n 0, 1) := by decide +kernel
theorem dX4_begin_32 : decode cX4_begin 32 = .ok (.iconst 0, 1) := by decide +kernel
theorem dX4_begin_33 : decode cX4_begin 33 = .ok (.putfield 34, 3) := by decide +kernel
theorem dX4_begin_36 : decode cX4_begin 36 = .ok (.aload_n 0, 1) := by decide +kernel
theorem dX4_begin_37 : decode cX4_begin 37 = .ok (.iconst 0, 1) := by decide +kernel
theorem dX4_begin_38 : decode cX4_begin 38 = .ok (.putfield 37, 3) := by decide +kernel
theorem dX4_begin_41 : decode cX4_begin 41 = .ok (.aload_n 0, 1) := by decide +kernel
theorem dX4_begin_42 : decode cX4_begin 42 = .ok (.iconst 0, 1) := by decide +kernel
theorem dX4_begin_43 : decode cX4_begin 43 = .ok (.putfield 41, 3) := by decide +kernel
theorem dX4_begin_46 : decode cX4_begin 46 = .ok (.aload_n 0, 1) := by decide +kernel
theorem dX4_begin_47 : decode cX4_begin 47 = .ok (.iconst 0, 1) := by decide +kernel
theorem dX4_begin_48 : decode cX4_begin 48 = .ok (.putfield 44, 3) := by decide +kernel
theorem dX4_begin_51 : decode cX4_begin 51 = .ok (.aload_n 0, 1) := by decide +kernel
theorem dX4_begin_52 : decode cX4_begin 52 = .ok (.iconst 0, 1) := by decide +kernel
theorem dX4_begin_53 : decode cX4_begin 53 = .ok (.putfield 47, 3) := by decide +kernel
theorem dX4_begin_56 : decode cX4_begin 56 = .ok (.aload_n 0, 1) := by decide +kernel
theorem dX4_begin_57 : decode cX4_begin 57 = .ok (.iconst 0, 1) := by decide +kernel
theorem dX4_begin_58 : decode cX4_begin 58 = .ok (.putfield 50, 3) := by decide +kernel
theorem dX4_begin_61 : decode cX4_begin 61 = .ok (.return_, 1) := by decide +kernel
theorem dX4_goesOn_0 : decode cX4_goesOn 0 = .ok (.aload_n 0, 1) := by decide +kernel
theorem dX4_goesOn_1 : decode cX4_goesOn 1 = .ok (.getfield 28, 3) := by decide +kernel
theorem dX4_goesOn_4 : decode cX4_goesOn 4 = .ok (.iconst 1, 1) := by decide +kernel
theorem dX4_goesOn_5 : decode cX4_goesOn 5 = .ok (.if_icmp .lt 15, 3) := by decide +kernel
theorem dX4_goesOn_8 : decode cX4_goesOn 8 = .ok (.aload_n 0, 1) := by decide +kernel
theorem dX4_goesOn_9 : decode cX4_goesOn 9 = .ok (.getfield 28, 3) := by decide +kernel
theorem dX4_goesOn_12 : decode cX4_goesOn 12 = .ok (.iconst 4, 1) := by decide +kernel
theorem dX4_goesOn_13 : decode cX4_goesOn 13 = .ok (.if_icmp .gt 7, 3) := by decide +kernel
theorem dX4_goesOn_16 : decode cX4_goesOn 16 = .ok (.iconst 1, 1) := by decide +kernel
theorem dX4_goesOn_17 : decode cX4_goesOn 17 = .ok (.goto 4, 3) := by decide +kernel
theorem dX4_goesOn_20 : decode cX4_goesOn 20 = .ok (.iconst 0, 1) := by decide +kernel
theorem dX4_goesOn_21 : decode cX4_goesOn 21 = .ok (.ireturn, 1) := by decide +kernel
theorem dX4_covers_0 : decode cX4_covers 0 = .ok (.iload_n 1, 1) := by decide +kernel
theorem dX4_covers_1 : decode cX4_covers 1 = .ok (.aload_n 0, 1) := by decide +kernel
theorem dX4_covers_2 : decode cX4_covers 2 = .ok (.getfield 15, 3) := by decide +kernel
theorem dX4_covers_5 : decode cX4_covers 5 = .ok (.if_icmp .lt 15, 3) := by decide +kernel
theorem dX4_covers_8 : decode cX4_covers 8 = .ok (.iload_n 1, 1) := by decide +kernel
theorem dX4_covers_9 : decode cX4_covers 9 = .ok (.aload_n 0, 1) := by decide +kernel
theorem dX4_covers_10 : decode cX4_covers 10 = .ok (.getfield 19, 3) := by decide +kernel
theorem dX4_covers_13 : decode cX4_covers 13 = .ok (.if_icmp .ge 7, 3) := by decide +kernel
theorem dX4_covers_16 : decode cX4_covers 16 = .ok (.iconst 1, 1) := by decide +kernel
theorem dX4_covers_17 : decode cX4_covers 17 = .ok (.goto 4, 3) := by decide +kernel
theorem dX4_covers_20 : decode cX4_covers 20 = .ok (.iconst 0, 1) := by decide +kernel
theorem dX4_covers_21 : decode cX4_covers 21 = .ok (.ireturn, 1) := by decide +kernel
theorem dX4_takesTrail_0 : decode cX4_takesTrail 0 = .ok (.aload_n 0, 1) := by decide +kernel
theorem dX4_takesTrail_1 : decode cX4_takesTrail 1 = .ok (.getfield 28, 3) := by decide +kernel
theorem dX4_takesTrail_4 : decode cX4_takesTrail 4 = .ok (.iconst 1, 1) := by decide +kernel
theorem dX4_takesTrail_5 : decode cX4_takesTrail 5 = .ok (.if_icmp .eq 11, 3) := by decide +kernel
theorem dX4_takesTrail_8 : decode cX4_takesTrail 8 = .ok (.aload_n 0, 1) := by decide +kernel
theorem dX4_takesTrail_9 : decode cX4_takesTrail 9 = .ok (.getfield 28, 3) := by decide +kernel
theorem dX4_takesTrail_12 : decode cX4_takesTrail 12 = .ok (.iconst 2, 1) := by decide +kernel
theorem dX4_takesTrail_13 : decode cX4_takesTrail 13 = .ok (.if_icmp .ne 7, 3) := by decide +kernel
theorem dX4_takesTrail_16 : decode cX4_takesTrail 16 = .ok (.iconst 1, 1) := by decide +kernel
theorem dX4_takesTrail_17 : decode cX4_takesTrail 17 = .ok (.goto 4, 3) := by decide +kernel
theorem dX4_takesTrail_20 : decode cX4_takesTrail 20 = .ok (.iconst 0, 1) := by decide +kernel
theorem dX4_takesTrail_21 : decode cX4_takesTrail 21 = .ok (.ireturn, 1) := by decide +kernel
theorem dX4_hasInTrail_0 : decode cX4_hasInTrail 0 = .ok (.iconst 0, 1) := by decide +kernel
theorem dX4_hasInTrail_1 : decode cX4_hasInTrail 1 = .ok (.istore_n 2, 1) := by decide +kernel
theorem dX4_hasInTrail_2 : decode cX4_hasInTrail 2 = .ok (.iload_n 2, 1) := by decide +kernel
theorem dX4_hasInTrail_3 : decode cX4_hasInTrail 3 = .ok (.aload_n 0, 1) := by decide +kernel
theorem dX4_hasInTrail_4 : decode cX4_hasInTrail 4 = .ok (.getfield 34, 3) := by decide +kernel
theorem dX4_hasInTrail_7 : decode cX4_hasInTrail 7 = .ok (.if_icmp .ge 21, 3) := by decide +kernel
theorem dX4_hasInTrail_10 : decode cX4_hasInTrail 10 = .ok (.aload_n 0, 1) := by decide +kernel
theorem dX4_hasInTrail_11 : decode cX4_hasInTrail 11 = .ok (.getfield 9, 3) := by decide +kernel
theorem dX4_hasInTrail_14 : decode cX4_hasInTrail 14 = .ok (.iload_n 2, 1) := by decide +kernel
theorem dX4_hasInTrail_15 : decode cX4_hasInTrail 15 = .ok (.iaload, 1) := by decide +kernel
theorem dX4_hasInTrail_16 : decode cX4_hasInTrail 16 = .ok (.iload_n 1, 1) := by decide +kernel
theorem dX4_hasInTrail_17 : decode cX4_hasInTrail 17 = .ok (.if_icmp .ne 5, 3) := by decide +kernel
theorem dX4_hasInTrail_20 : decode cX4_hasInTrail 20 = .ok (.iconst 1, 1) := by decide +kernel
theorem dX4_hasInTrail_21 : decode cX4_hasInTrail 21 = .ok (.ireturn, 1) := by decide +kernel
theorem dX4_hasInTrail_22 : decode cX4_hasInTrail 22 = .ok (.iinc 2 1, 3) := by decide +kernel
theorem dX4_hasInTrail_25 : decode cX4_hasInTrail 25 = .ok (.goto (-23), 3) := by decide +kernel
theorem dX4_hasInTrail_28 : decode cX4_hasInTrail 28 = .ok (.iconst 0, 1) := by decide +kernel
theorem dX4_hasInTrail_29 : decode cX4_hasInTrail 29 = .ok (.ireturn, 1) := by decide +kernel
theorem dX4_refusesWrite_0 : decode cX4_refusesWrite 0 = .ok (.aload_n 0, 1) := by decide +kernel
theorem dX4_refusesWrite_1 : decode cX4_refusesWrite 1 = .ok (.getfield 28, 3) := by decide +kernel
theorem dX4_refusesWrite_4 : decode cX4_refusesWrite 4 = .ok (.iconst 3, 1) := by decide +kernel
theorem dX4_refusesWrite_5 : decode cX4_refusesWrite 5 = .ok (.if_icmp .ne 5, 3) := by decide +kernel
theorem dX4_refusesWrite_8 : decode cX4_refusesWrite 8 = .ok (.iconst 1, 1) := by decide +kernel
theorem dX4_refusesWrite_9 : decode cX4_refusesWrite 9 = .ok (.ireturn, 1) := by decide +kernel
theorem dX4_refusesWrite_10 : decode cX4_refusesWrite 10 = .ok (.aload_n 0, 1) := by decide +kernel
theorem dX4_refusesWrite_11 : decode cX4_refusesWrite 11 = .ok (.invokevirtual 53, 3) := by decide +kernel
theorem dX4_refusesWrite_14 : decode cX4_refusesWrite 14 = .ok (.ifCond .eq 24, 3) := by decide +kernel
theorem dX4_refusesWrite_17 : decode cX4_refusesWrite 17 = .ok (.aload_n 0, 1) := by decide +kernel
theorem dX4_refusesWrite_18 : decode cX4_refusesWrite 18 = .ok (.getfield 34, 3) := by decide +kernel
theorem dX4_refusesWrite_21 : decode cX4_refusesWrite 21 = .ok (.bipush 60, 2) := by decide +kernel
theorem dX4_refusesWrite_23 : decode cX4_refusesWrite 23 = .ok (.if_icmp .lt 15, 3) := by decide +kernel
theorem dX4_refusesWrite_26 : decode cX4_refusesWrite 26 = .ok (.aload_n 0, 1) := by decide +kernel
theorem dX4_refusesWrite_27 : decode cX4_refusesWrite 27 = .ok (.iload_n 1, 1) := by decide +kernel
theorem dX4_refusesWrite_28 : decode cX4_refusesWrite 28 = .ok (.invokevirtual 57, 3) := by decide +kernel
theorem dX4_refusesWrite_31 : decode cX4_refusesWrite 31 = .ok (.ifCond .ne 7, 3) := by decide +kernel
theorem dX4_refusesWrite_34 : decode cX4_refusesWrite 34 = .ok (.iconst 1, 1) := by decide +kernel
theorem dX4_refusesWrite_35 : decode cX4_refusesWrite 35 = .ok (.goto 4, 3) := by decide +kernel
theorem dX4_refusesWrite_38 : decode cX4_refusesWrite 38 = .ok (.iconst 0, 1) := by decide +kernel
theorem dX4_refusesWrite_39 : decode cX4_refusesWrite 39 = .ok (.ireturn, 1) := by decide +kernel
theorem dX4_noteWrite_0 : decode cX4_noteWrite 0 = .ok (.aload_n 0, 1) := by decide +kernel
theorem dX4_noteWrite_1 : decode cX4_noteWrite 1 = .ok (.invokevirtual 53, 3) := by decide +kernel
theorem dX4_noteWrite_4 : decode cX4_noteWrite 4 = .ok (.ifCond .eq 40, 3) := by decide +kernel
theorem dX4_noteWrite_7 : decode cX4_noteWrite 7 = .ok (.aload_n 0, 1) := by decide +kernel
theorem dX4_noteWrite_8 : decode cX4_noteWrite 8 = .ok (.getfield 34, 3) := by decide +kernel
theorem dX4_noteWrite_11 : decode cX4_noteWrite 11 = .ok (.bipush 60, 2) := by decide +kernel
theorem dX4_noteWrite_13 : decode cX4_noteWrite 13 = .ok (.if_icmp .ge 31, 3) := by decide +kernel
theorem dX4_noteWrite_16 : decode cX4_noteWrite 16 = .ok (.aload_n 0, 1) := by decide +kernel
theorem dX4_noteWrite_17 : decode cX4_noteWrite 17 = .ok (.iload_n 1, 1) := by decide +kernel
theorem dX4_noteWrite_18 : decode cX4_noteWrite 18 = .ok (.invokevirtual 57, 3) := by decide +kernel
theorem dX4_noteWrite_21 : decode cX4_noteWrite 21 = .ok (.ifCond .ne 23, 3) := by decide +kernel
theorem dX4_noteWrite_24 : decode cX4_noteWrite 24 = .ok (.aload_n 0, 1) := by decide +kernel
theorem dX4_noteWrite_25 : decode cX4_noteWrite 25 = .ok (.getfield 9, 3) := by decide +kernel
theorem dX4_noteWrite_28 : decode cX4_noteWrite 28 = .ok (.aload_n 0, 1) := by decide +kernel
theorem dX4_noteWrite_29 : decode cX4_noteWrite 29 = .ok (.getfield 34, 3) := by decide +kernel
theorem dX4_noteWrite_32 : decode cX4_noteWrite 32 = .ok (.iload_n 1, 1) := by decide +kernel
theorem dX4_noteWrite_33 : decode cX4_noteWrite 33 = .ok (.iastore, 1) := by decide +kernel
theorem dX4_noteWrite_34 : decode cX4_noteWrite 34 = .ok (.aload_n 0, 1) := by decide +kernel
theorem dX4_noteWrite_35 : decode cX4_noteWrite 35 = .ok (.dup, 1) := by decide +kernel
theorem dX4_noteWrite_36 : decode cX4_noteWrite 36 = .ok (.getfield 34, 3) := by decide +kernel
theorem dX4_noteWrite_39 : decode cX4_noteWrite 39 = .ok (.iconst 1, 1) := by decide +kernel
theorem dX4_noteWrite_40 : decode cX4_noteWrite 40 = .ok (.iadd, 1) := by decide +kernel
theorem dX4_noteWrite_41 : decode cX4_noteWrite 41 = .ok (.putfield 34, 3) := by decide +kernel
theorem dX4_noteWrite_44 : decode cX4_noteWrite 44 = .ok (.return_, 1) := by decide +kernel
theorem dX4_dropFromTrail_0 : decode cX4_dropFromTrail 0 = .ok (.aload_n 0, 1) := by decide +kernel
theorem dX4_dropFromTrail_1 : decode cX4_dropFromTrail 1 = .ok (.getfield 9, 3) := by decide +kernel
theorem dX4_dropFromTrail_4 : decode cX4_dropFromTrail 4 = .ok (.iload_n 1, 1) := by decide +kernel
theorem dX4_dropFromTrail_5 : decode cX4_dropFromTrail 5 = .ok (.aload_n 0, 1) := by decide +kernel
theorem dX4_dropFromTrail_6 : decode cX4_dropFromTrail 6 = .ok (.getfield 9, 3) := by decide +kernel
theorem dX4_dropFromTrail_9 : decode cX4_dropFromTrail 9 = .ok (.iconst 0, 1) := by decide +kernel
theorem dX4_dropFromTrail_10 : decode cX4_dropFromTrail 10 = .ok (.aload_n 0, 1) := by decide +kernel
theorem dX4_dropFromTrail_11 : decode cX4_dropFromTrail 11 = .ok (.getfield 34, 3) := by decide +kernel
theorem dX4_dropFromTrail_14 : decode cX4_dropFromTrail 14 = .ok (.iload_n 1, 1) := by decide +kernel
theorem dX4_dropFromTrail_15 : decode cX4_dropFromTrail 15 = .ok (.isub, 1) := by decide +kernel
theorem dX4_dropFromTrail_16 : decode cX4_dropFromTrail 16 = .ok (.invokestatic 61, 3) := by decide +kernel
theorem dX4_dropFromTrail_19 : decode cX4_dropFromTrail 19 = .ok (.aload_n 0, 1) := by decide +kernel
theorem dX4_dropFromTrail_20 : decode cX4_dropFromTrail 20 = .ok (.dup, 1) := by decide +kernel
theorem dX4_dropFromTrail_21 : decode cX4_dropFromTrail 21 = .ok (.getfield 34, 3) := by decide +kernel
theorem dX4_dropFromTrail_24 : decode cX4_dropFromTrail 24 = .ok (.iload_n 1, 1) := by decide +kernel
theorem dX4_dropFromTrail_25 : decode cX4_dropFromTrail 25 = .ok (.isub, 1) := by decide +kernel
theorem dX4_dropFromTrail_26 : decode cX4_dropFromTrail 26 = .ok (.putfield 34, 3) := by decide +kernel
theorem dX4_dropFromTrail_29 : decode cX4_dropFromTrail 29 = .ok (.return_, 1) := by decide +kernel
theorem dX4_countDown_0 : decode cX4_countDown 0 = .ok (.aload_n 0, 1) := by decide +kernel
theorem dX4_countDown_1 : decode cX4_countDown 1 = .ok (.getfield 47, 3) := by decide +kernel
theorem dX4_countDown_4 : decode cX4_countDown 4 = .ok (.ifCond .ne 5, 3) := by decide +kernel
theorem dX4_countDown_7 : decode cX4_countDown 7 = .ok (.iconst 0, 1) := by decide +kernel
theorem dX4_countDown_8 : decode cX4_countDown 8 = .ok (.ireturn, 1) := by decide +kernel
theorem dX4_countDown_9 : decode cX4_countDown 9 = .ok (.aload_n 0, 1) := by decide +kernel
theorem dX4_countDown_10 : decode cX4_countDown 10 = .ok (.dup, 1) := by decide +kernel
theorem dX4_countDown_11 : decode cX4_countDown 11 = .ok (.getfield 47, 3) := by decide +kernel
theorem dX4_countDown_14 : decode cX4_countDown 14 = .ok (.iconst 1, 1) := by decide +kernel
theorem dX4_countDown_15 : decode cX4_countDown 15 = .ok (.isub, 1) := by decide +kernel
theorem dX4_countDown_16 : decode cX4_countDown 16 = .ok (.putfield 47, 3) := by decide +kernel
theorem dX4_countDown_19 : decode cX4_countDown 19 = .ok (.aload_n 0, 1) := by decide +kernel
theorem dX4_countDown_20 : decode cX4_countDown 20 = .ok (.getfield 47, 3) := by decide +kernel
theorem dX4_countDown_23 : decode cX4_countDown 23 = .ok (.ifCond .ne 7, 3) := by decide +kernel
theorem dX4_countDown_26 : decode cX4_countDown 26 = .ok (.iconst 1, 1) := by decide +kernel
theorem dX4_countDown_27 : decode cX4_countDown 27 = .ok (.goto 4, 3) := by decide +kernel
theorem dX4_countDown_30 : decode cX4_countDown 30 = .ok (.iconst 0, 1) := by decide +kernel
theorem dX4_countDown_31 : decode cX4_countDown 31 = .ok (.ireturn, 1) := by decide +kernel
theorem dX4_breakBy_0 : decode cX4_breakBy 0 = .ok (.aload_n 0, 1) := by decide +kernel
theorem dX4_breakBy_1 : decode cX4_breakBy 1 = .ok (.iconst 1, 1) := by decide +kernel
theorem dX4_breakBy_2 : decode cX4_breakBy 2 = .ok (.putfield 37, 3) := by decide +kernel
theorem dX4_breakBy_5 : decode cX4_breakBy 5 = .ok (.aload_n 0, 1) := by decide +kernel
theorem dX4_breakBy_6 : decode cX4_breakBy 6 = .ok (.iload_n 1, 1) := by decide +kernel
theorem dX4_breakBy_7 : decode cX4_breakBy 7 = .ok (.putfield 41, 3) := by decide +kernel
theorem dX4_breakBy_10 : decode cX4_breakBy 10 = .ok (.return_, 1) := by decide +kernel
theorem dX4_copyFrom_0 : decode cX4_copyFrom 0 = .ok (.aload_n 0, 1) := by decide +kernel
theorem dX4_copyFrom_1 : decode cX4_copyFrom 1 = .ok (.aload_n 1, 1) := by decide +kernel
theorem dX4_copyFrom_2 : decode cX4_copyFrom 2 = .ok (.getfield 34, 3) := by decide +kernel
theorem dX4_copyFrom_5 : decode cX4_copyFrom 5 = .ok (.putfield 34, 3) := by decide +kernel
theorem dX4_copyFrom_8 : decode cX4_copyFrom 8 = .ok (.aload_n 1, 1) := by decide +kernel
theorem dX4_copyFrom_9 : decode cX4_copyFrom 9 = .ok (.getfield 9, 3) := by decide +kernel
theorem dX4_copyFrom_12 : decode cX4_copyFrom 12 = .ok (.iconst 0, 1) := by decide +kernel
theorem dX4_copyFrom_13 : decode cX4_copyFrom 13 = .ok (.aload_n 0, 1) := by decide +kernel
theorem dX4_copyFrom_14 : decode cX4_copyFrom 14 = .ok (.getfield 9, 3) := by decide +kernel
theorem dX4_copyFrom_17 : decode cX4_copyFrom 17 = .ok (.iconst 0, 1) := by decide +kernel
theorem dX4_copyFrom_18 : decode cX4_copyFrom 18 = .ok (.aload_n 0, 1) := by decide +kernel
theorem dX4_copyFrom_19 : decode cX4_copyFrom 19 = .ok (.getfield 34, 3) := by decide +kernel
theorem dX4_copyFrom_22 : decode cX4_copyFrom 22 = .ok (.invokestatic 61, 3) := by decide +kernel
theorem dX4_copyFrom_25 : decode cX4_copyFrom 25 = .ok (.aload_n 0, 1) := by decide +kernel
theorem dX4_copyFrom_26 : decode cX4_copyFrom 26 = .ok (.aload_n 1, 1) := by decide +kernel
theorem dX4_copyFrom_27 : decode cX4_copyFrom 27 = .ok (.getfield 28, 3) := by decide +kernel
theorem dX4_copyFrom_30 : decode cX4_copyFrom 30 = .ok (.putfield 28, 3) := by decide +kernel
theorem dX4_copyFrom_33 : decode cX4_copyFrom 33 = .ok (.aload_n 0, 1) := by decide +kernel
theorem dX4_copyFrom_34 : decode cX4_copyFrom 34 = .ok (.aload_n 1, 1) := by decide +kernel
theorem dX4_copyFrom_35 : decode cX4_copyFrom 35 = .ok (.getfield 15, 3) := by decide +kernel
theorem dX4_copyFrom_38 : decode cX4_copyFrom 38 = .ok (.putfield 15, 3) := by decide +kernel
theorem dX4_copyFrom_41 : decode cX4_copyFrom 41 = .ok (.aload_n 0, 1) := by decide +kernel
theorem dX4_copyFrom_42 : decode cX4_copyFrom 42 = .ok (.aload_n 1, 1) := by decide +kernel
theorem dX4_copyFrom_43 : decode cX4_copyFrom 43 = .ok (.getfield 19, 3) := by decide +kernel
theorem dX4_copyFrom_46 : decode cX4_copyFrom 46 = .ok (.putfield 19, 3) := by decide +kernel
theorem dX4_copyFrom_49 : decode cX4_copyFrom 49 = .ok (.aload_n 0, 1) := by decide +kernel
theorem dX4_copyFrom_50 : decode cX4_copyFrom 50 = .ok (.aload_n 1, 1) := by decide +kernel
theorem dX4_copyFrom_51 : decode cX4_copyFrom 51 = .ok (.getfield 22, 3) := by decide +kernel
theorem dX4_copyFrom_54 : decode cX4_copyFrom 54 = .ok (.putfield 22, 3) := by decide +kernel
theorem dX4_copyFrom_57 : decode cX4_copyFrom 57 = .ok (.aload_n 0, 1) := by decide +kernel
theorem dX4_copyFrom_58 : decode cX4_copyFrom 58 = .ok (.aload_n 1, 1) := by decide +kernel
theorem dX4_copyFrom_59 : decode cX4_copyFrom 59 = .ok (.getfield 25, 3) := by decide +kernel
theorem dX4_copyFrom_62 : decode cX4_copyFrom 62 = .ok (.putfield 25, 3) := by decide +kernel
theorem dX4_copyFrom_65 : decode cX4_copyFrom 65 = .ok (.aload_n 0, 1) := by decide +kernel
theorem dX4_copyFrom_66 : decode cX4_copyFrom 66 = .ok (.aload_n 1, 1) := by decide +kernel
theorem dX4_copyFrom_67 : decode cX4_copyFrom 67 = .ok (.getfield 31, 3) := by decide +kernel
theorem dX4_copyFrom_70 : decode cX4_copyFrom 70 = .ok (.putfield 31, 3) := by decide +kernel
theorem dX4_copyFrom_73 : decode cX4_copyFrom 73 = .ok (.aload_n 0, 1) := by decide +kernel
theorem dX4_copyFrom_74 : decode cX4_copyFrom 74 = .ok (.aload_n 1, 1) := by decide +kernel
theorem dX4_copyFrom_75 : decode cX4_copyFrom 75 = .ok (.getfield 37, 3) := by decide +kernel
theorem dX4_copyFrom_78 : decode cX4_copyFrom 78 = .ok (.putfield 37, 3) := by decide +kernel
theorem dX4_copyFrom_81 : decode cX4_copyFrom 81 = .ok (.aload_n 0, 1) := by decide +kernel
theorem dX4_copyFrom_82 : decode cX4_copyFrom 82 = .ok (.aload_n 1, 1) := by decide +kernel
theorem dX4_copyFrom_83 : decode cX4_copyFrom 83 = .ok (.getfield 41, 3) := by decide +kernel
theorem dX4_copyFrom_86 : decode cX4_copyFrom 86 = .ok (.putfield 41, 3) := by decide +kernel
theorem dX4_copyFrom_89 : decode cX4_copyFrom 89 = .ok (.aload_n 0, 1) := by decide +kernel
theorem dX4_copyFrom_90 : decode cX4_copyFrom 90 = .ok (.aload_n 1, 1) := by decide +kernel
theorem dX4_copyFrom_91 : decode cX4_copyFrom 91 = .ok (.getfield 44, 3) := by decide +kernel
theorem dX4_copyFrom_94 : decode cX4_copyFrom 94 = .ok (.putfield 44, 3) := by decide +kernel
theorem dX4_copyFrom_97 : decode cX4_copyFrom 97 = .ok (.aload_n 0, 1) := by decide +kernel
theorem dX4_copyFrom_98 : decode cX4_copyFrom 98 = .ok (.aload_n 1, 1) := by decide +kernel
theorem dX4_copyFrom_99 : decode cX4_copyFrom 99 = .ok (.getfield 47, 3) := by decide +kernel
theorem dX4_copyFrom_102 : decode cX4_copyFrom 102 = .ok (.putfield 47, 3) := by decide +kernel
theorem dX4_copyFrom_105 : decode cX4_copyFrom 105 = .ok (.aload_n 0, 1) := by decide +kernel
theorem dX4_copyFrom_106 : decode cX4_copyFrom 106 = .ok (.aload_n 1, 1) := by decide +kernel
theorem dX4_copyFrom_107 : decode cX4_copyFrom 107 = .ok (.getfield 50, 3) := by decide +kernel
theorem dX4_copyFrom_110 : decode cX4_copyFrom 110 = .ok (.putfield 50, 3) := by decide +kernel
theorem dX4_copyFrom_113 : decode cX4_copyFrom 113 = .ok (.return_, 1) := by decide +kernel
theorem dX8_init_0 : decode cX8_init 0 = .ok (.aload_n 0, 1) := by decide +kernel
theorem dX8_init_1 : decode cX8_init 1 = .ok (.invokespecial 3, 3) := by decide +kernel
theorem dX8_init_4 : decode cX8_init 4 = .ok (.aload_n 0, 1) := by decide +kernel
theorem dX8_init_5 : decode cX8_init 5 = .ok (.bipush 32, 2) := by decide +kernel
theorem dX8_init_7 : decode cX8_init 7 = .ok (.newarray .int, 2) := by decide +kernel
theorem dX8_init_9 : decode cX8_init 9 = .ok (.putfield 9, 3) := by decide +kernel
theorem dX8_init_12 : decode cX8_init 12 = .ok (.aload_n 0, 1) := by decide +kernel
theorem dX8_init_13 : decode cX8_init 13 = .ok (.bipush 32, 2) := by decide +kernel
theorem dX8_init_15 : decode cX8_init 15 = .ok (.newarray .int, 2) := by decide +kernel
theorem dX8_init_17 : decode cX8_init 17 = .ok (.putfield 15, 3) := by decide +kernel
theorem dX8_init_20 : decode cX8_init 20 = .ok (.aload_n 0, 1) := by decide +kernel
theorem dX8_init_21 : decode cX8_init 21 = .ok (.bipush 32, 2) := by decide +kernel
theorem dX8_init_23 : decode cX8_init 23 = .ok (.newarray .int, 2) := by decide +kernel
theorem dX8_init_25 : decode cX8_init 25 = .ok (.putfield 18, 3) := by decide +kernel
theorem dX8_init_28 : decode cX8_init 28 = .ok (.return_, 1) := by decide +kernel
theorem dX8_has_0 : decode cX8_has 0 = .ok (.iload_n 1, 1) := by decide +kernel
theorem dX8_has_1 : decode cX8_has 1 = .ok (.ifCond .lt 15, 3) := by decide +kernel
theorem dX8_has_4 : decode cX8_has 4 = .ok (.iload_n 1, 1) := by decide +kernel
theorem dX8_has_5 : decode cX8_has 5 = .ok (.aload_n 0, 1) := by decide +kernel
theorem dX8_has_6 : decode cX8_has 6 = .ok (.getfield 21, 3) := by decide +kernel
theorem dX8_has_9 : decode cX8_has 9 = .ok (.if_icmp .ge 7, 3) := by decide +kernel
theorem dX8_has_12 : decode cX8_has 12 = .ok (.iconst 1, 1) := by decide +kernel
theorem dX8_has_13 : decode cX8_has 13 = .ok (.goto 4, 3) := by decide +kernel
theorem dX8_has_16 : decode cX8_has 16 = .ok (.iconst 0, 1) := by decide +kernel
theorem dX8_has_17 : decode cX8_has 17 = .ok (.ireturn, 1) := by decide +kernel
theorem dX8_endOf_0 : decode cX8_endOf 0 = .ok (.iload_n 1, 1) := by decide +kernel
theorem dX8_endOf_1 : decode cX8_endOf 1 = .ok (.iconst 1, 1) := by decide +kernel
theorem dX8_endOf_2 : decode cX8_endOf 2 = .ok (.iadd, 1) := by decide +kernel
theorem dX8_endOf_3 : decode cX8_endOf 3 = .ok (.aload_n 0, 1) := by decide +kernel
theorem dX8_endOf_4 : decode cX8_endOf 4 = .ok (.getfield 21, 3) := by decide +kernel
theorem dX8_endOf_7 : decode cX8_endOf 7 = .ok (.if_icmp .ge 14, 3) := by decide +kernel
theorem dX8_endOf_10 : decode cX8_endOf 10 = .ok (.aload_n 0, 1) := by decide +kernel
theorem dX8_endOf_11 : decode cX8_endOf 11 = .ok (.getfield 9, 3) := by decide +kernel
theorem dX8_endOf_14 : decode cX8_endOf 14 = .ok (.iload_n 1, 1) := by decide +kernel
theorem dX8_endOf_15 : decode cX8_endOf 15 = .ok (.iconst 1, 1) := by decide +kernel
theorem dX8_endOf_16 : decode cX8_endOf 16 = .ok (.iadd, 1) := by decide +kernel
theorem dX8_endOf_17 : decode cX8_endOf 17 = .ok (.iaload, 1) := by decide +kernel
theorem dX8_endOf_18 : decode cX8_endOf 18 = .ok (.goto 6, 3) := by decide +kernel
theorem dX8_endOf_21 : decode cX8_endOf 21 = .ok (.sipush 1000, 3) := by decide +kernel
theorem dX8_endOf_24 : decode cX8_endOf 24 = .ok (.ireturn, 1) := by decide +kernel
theorem dX8_indexOf_0 : decode cX8_indexOf 0 = .ok (.aload_n 0, 1) := by decide +kernel
theorem dX8_indexOf_1 : decode cX8_indexOf 1 = .ok (.getfield 21, 3) := by decide +kernel
theorem dX8_indexOf_4 : decode cX8_indexOf 4 = .ok (.iconst 1, 1) := by decide +kernel
theorem dX8_indexOf_5 : decode cX8_indexOf 5 = .ok (.isub, 1) := by decide +kernel
theorem dX8_indexOf_6 : decode cX8_indexOf 6 = .ok (.istore_n 2, 1) := by decide +kernel
theorem dX8_indexOf_7 : decode cX8_indexOf 7 = .ok (.iload_n 2, 1) := by decide +kernel
theorem dX8_indexOf_8 : decode cX8_indexOf 8 = .ok (.ifCond .le 21, 3) := by decide +kernel
theorem dX8_indexOf_11 : decode cX8_indexOf 11 = .ok (.aload_n 0, 1) := by decide +kernel
theorem dX8_indexOf_12 : decode cX8_indexOf 12 = .ok (.getfield 9, 3) := by decide +kernel
theorem dX8_indexOf_15 : decode cX8_indexOf 15 = .ok (.iload_n 2, 1) := by decide +kernel
theorem dX8_indexOf_16 : decode cX8_indexOf 16 = .ok (.iaload, 1) := by decide +kernel
theorem dX8_indexOf_17 : decode cX8_indexOf 17 = .ok (.iload_n 1, 1) := by decide +kernel
theorem dX8_indexOf_18 : decode cX8_indexOf 18 = .ok (.if_icmp .gt 5, 3) := by decide +kernel
theorem dX8_indexOf_21 : decode cX8_indexOf 21 = .ok (.iload_n 2, 1) := by decide +kernel
theorem dX8_indexOf_22 : decode cX8_indexOf 22 = .ok (.ireturn, 1) := by decide +kernel
theorem dX8_indexOf_23 : decode cX8_indexOf 23 = .ok (.iinc 2 (-1), 3) := by decide +kernel
theorem dX8_indexOf_26 : decode cX8_indexOf 26 = .ok (.goto (-19), 3) := by decide +kernel
theorem dX8_indexOf_29 : decode cX8_indexOf 29 = .ok (.iconst 0, 1) := by decide +kernel
theorem dX8_indexOf_30 : decode cX8_indexOf 30 = .ok (.ireturn, 1) := by decide +kernel
theorem dX8_indexOfLow_0 : decode cX8_indexOfLow 0 = .ok (.iconst 0, 1) := by decide +kernel
theorem dX8_indexOfLow_1 : decode cX8_indexOfLow 1 = .ok (.istore_n 2, 1) := by decide +kernel
theorem dX8_indexOfLow_2 : decode cX8_indexOfLow 2 = .ok (.iload_n 2, 1) := by decide +kernel
theorem dX8_indexOfLow_3 : decode cX8_indexOfLow 3 = .ok (.aload_n 0, 1) := by decide +kernel
theorem dX8_indexOfLow_4 : decode cX8_indexOfLow 4 = .ok (.getfield 21, 3) := by decide +kernel
theorem dX8_indexOfLow_7 : decode cX8_indexOfLow 7 = .ok (.if_icmp .ge 21, 3) := by decide +kernel
theorem dX8_indexOfLow_10 : decode cX8_indexOfLow 10 = .ok (.aload_n 0, 1) := by decide +kernel
theorem dX8_indexOfLow_11 : decode cX8_indexOfLow 11 = .ok (.getfield 9, 3) := by decide +kernel
theorem dX8_indexOfLow_14 : decode cX8_indexOfLow 14 = .ok (.iload_n 2, 1) := by decide +kernel
theorem dX8_indexOfLow_15 : decode cX8_indexOfLow 15 = .ok (.iaload, 1) := by decide +kernel
theorem dX8_indexOfLow_16 : decode cX8_indexOfLow 16 = .ok (.iload_n 1, 1) := by decide +kernel
theorem dX8_indexOfLow_17 : decode cX8_indexOfLow 17 = .ok (.if_icmp .ne 5, 3) := by decide +kernel
theorem dX8_indexOfLow_20 : decode cX8_indexOfLow 20 = .ok (.iload_n 2, 1) := by decide +kernel
theorem dX8_indexOfLow_21 : decode cX8_indexOfLow 21 = .ok (.ireturn, 1) := by decide +kernel
theorem dX8_indexOfLow_22 : decode cX8_indexOfLow 22 = .ok (.iinc 2 1, 3) := by decide +kernel
theorem dX8_indexOfLow_25 : decode cX8_indexOfLow 25 = .ok (.goto (-23), 3) := by decide +kernel
theorem dX8_indexOfLow_28 : decode cX8_indexOfLow 28 = .ok (.iconst (-1), 1) := by decide +kernel
theorem dX8_indexOfLow_29 : decode cX8_indexOfLow 29 = .ok (.ireturn, 1) := by decide +kernel
theorem dX8_ownedBy_0 : decode cX8_ownedBy 0 = .ok (.iconst 0, 1) := by decide +kernel
theorem dX8_ownedBy_1 : decode cX8_ownedBy 1 = .ok (.istore_n 2, 1) := by decide +kernel
theorem dX8_ownedBy_2 : decode cX8_ownedBy 2 = .ok (.iconst 0, 1) := by decide +kernel
theorem dX8_ownedBy_3 : decode cX8_ownedBy 3 = .ok (.istore_n 3, 1) := by decide +kernel
theorem dX8_ownedBy_4 : decode cX8_ownedBy 4 = .ok (.iload_n 3, 1) := by decide +kernel
theorem dX8_ownedBy_5 : decode cX8_ownedBy 5 = .ok (.aload_n 0, 1) := by decide +kernel
theorem dX8_ownedBy_6 : decode cX8_ownedBy 6 = .ok (.getfield 21, 3) := by decide +kernel
theorem dX8_ownedBy_9 : decode cX8_ownedBy 9 = .ok (.if_icmp .ge 22, 3) := by decide +kernel
theorem dX8_ownedBy_12 : decode cX8_ownedBy 12 = .ok (.aload_n 0, 1) := by decide +kernel
theorem dX8_ownedBy_13 : decode cX8_ownedBy 13 = .ok (.getfield 15, 3) := by decide +kernel
theorem dX8_ownedBy_16 : decode cX8_ownedBy 16 = .ok (.iload_n 3, 1) := by decide +kernel
theorem dX8_ownedBy_17 : decode cX8_ownedBy 17 = .ok (.iaload, 1) := by decide +kernel
theorem dX8_ownedBy_18 : decode cX8_ownedBy 18 = .ok (.iload_n 1, 1) := by decide +kernel
theorem dX8_ownedBy_19 : decode cX8_ownedBy 19 = .ok (.if_icmp .ne 6, 3) := by decide +kernel
theorem dX8_ownedBy_22 : decode cX8_ownedBy 22 = .ok (.iinc 2 1, 3) := by decide +kernel
theorem dX8_ownedBy_25 : decode cX8_ownedBy 25 = .ok (.iinc 3 1, 3) := by decide +kernel
theorem dX8_ownedBy_28 : decode cX8_ownedBy 28 = .ok (.goto (-24), 3) := by decide +kernel
theorem dX8_ownedBy_31 : decode cX8_ownedBy 31 = .ok (.iload_n 2, 1) := by decide +kernel
theorem dX8_ownedBy_32 : decode cX8_ownedBy 32 = .ok (.ireturn, 1) := by decide +kernel
theorem dX8_put_0 : decode cX8_put 0 = .ok (.aload_n 0, 1) := by decide +kernel
theorem dX8_put_1 : decode cX8_put 1 = .ok (.getfield 9, 3) := by decide +kernel
theorem dX8_put_4 : decode cX8_put 4 = .ok (.iload_n 1, 1) := by decide +kernel
theorem dX8_put_5 : decode cX8_put 5 = .ok (.iload_n 2, 1) := by decide +kernel
theorem dX8_put_6 : decode cX8_put 6 = .ok (.iastore, 1) := by decide +kernel
theorem dX8_put_7 : decode cX8_put 7 = .ok (.aload_n 0, 1) := by decide +kernel
theorem dX8_put_8 : decode cX8_put 8 = .ok (.getfield 15, 3) := by decide +kernel
theorem dX8_put_11 : decode cX8_put 11 = .ok (.iload_n 1, 1) := by decide +kernel
theorem dX8_put_12 : decode cX8_put 12 = .ok (.iload_n 3, 1) := by decide +kernel
theorem dX8_put_13 : decode cX8_put 13 = .ok (.iastore, 1) := by decide +kernel
theorem dX8_put_14 : decode cX8_put 14 = .ok (.aload_n 0, 1) := by decide +kernel
theorem dX8_put_15 : decode cX8_put 15 = .ok (.getfield 18, 3) := by decide +kernel
theorem dX8_put_18 : decode cX8_put 18 = .ok (.iload_n 1, 1) := by decide +kernel
theorem dX8_put_19 : decode cX8_put 19 = .ok (.aload_n 0, 1) := by decide +kernel
theorem dX8_put_20 : decode cX8_put 20 = .ok (.getfield 25, 3) := by decide +kernel
theorem dX8_put_23 : decode cX8_put 23 = .ok (.iastore, 1) := by decide +kernel
theorem dX8_put_24 : decode cX8_put 24 = .ok (.return_, 1) := by decide +kernel
theorem dX8_insertBehind_0 : decode cX8_insertBehind 0 = .ok (.aload_n 0, 1) := by decide +kernel
theorem dX8_insertBehind_1 : decode cX8_insertBehind 1 = .ok (.getfield 21, 3) := by decide +kernel
theorem dX8_insertBehind_4 : decode cX8_insertBehind 4 = .ok (.istore_n 2, 1) := by decide +kernel
theorem dX8_insertBehind_5 : decode cX8_insertBehind 5 = .ok (.iload_n 2, 1) := by decide +kernel
theorem dX8_insertBehind_6 : decode cX8_insertBehind 6 = .ok (.iload_n 1, 1) := by decide +kernel
theorem dX8_insertBehind_7 : decode cX8_insertBehind 7 = .ok (.iconst 1, 1) := by decide +kernel
theorem dX8_insertBehind_8 : decode cX8_insertBehind 8 = .ok (.iadd, 1) := by decide +kernel
theorem dX8_insertBehind_9 : decode cX8_insertBehind 9 = .ok (.if_icmp .le 17, 3) := by decide +kernel
theorem dX8_insertBehind_12 : decode cX8_insertBehind 12 = .ok (.aload_n 0, 1) := by decide +kernel
theorem dX8_insertBehind_13 : decode cX8_insertBehind 13 = .ok (.iload_n 2, 1) := by decide +kernel
theorem dX8_insertBehind_14 : decode cX8_insertBehind 14 = .ok (.iconst 1, 1) := by decide +kernel
theorem dX8_insertBehind_15 : decode cX8_insertBehind 15 = .ok (.isub, 1) := by decide +kernel
theorem dX8_insertBehind_16 : decode cX8_insertBehind 16 = .ok (.iload_n 2, 1) := by decide +kernel
theorem dX8_insertBehind_17 : decode cX8_insertBehind 17 = .ok (.invokevirtual 28, 3) := by decide +kernel
theorem dX8_insertBehind_20 : decode cX8_insertBehind 20 = .ok (.iinc 2 (-1), 3) := by decide +kernel
theorem dX8_insertBehind_23 : decode cX8_insertBehind 23 = .ok (.goto (-18), 3) := by decide +kernel
theorem dX8_insertBehind_26 : decode cX8_insertBehind 26 = .ok (.aload_n 0, 1) := by decide +kernel
theorem dX8_insertBehind_27 : decode cX8_insertBehind 27 = .ok (.dup, 1) := by decide +kernel
theorem dX8_insertBehind_28 : decode cX8_insertBehind 28 = .ok (.getfield 21, 3) := by decide +kernel
theorem dX8_insertBehind_31 : decode cX8_insertBehind 31 = .ok (.iconst 1, 1) := by decide +kernel
theorem dX8_insertBehind_32 : decode cX8_insertBehind 32 = .ok (.iadd, 1) := by decide +kernel
theorem dX8_insertBehind_33 : decode cX8_insertBehind 33 = .ok (.putfield 21, 3) := by decide +kernel
theorem dX8_insertBehind_36 : decode cX8_insertBehind 36 = .ok (.return_, 1) := by decide +kernel
theorem dX8_removeBehind_0 : decode cX8_removeBehind 0 = .ok (.iload_n 1, 1) := by decide +kernel
theorem dX8_removeBehind_1 : decode cX8_removeBehind 1 = .ok (.iconst 1, 1) := by decide +kernel
theorem dX8_removeBehind_2 : decode cX8_removeBehind 2 = .ok (.iadd, 1) := by decide +kernel
theorem dX8_removeBehind_3 : decode cX8_removeBehind 3 = .ok (.istore_n 2, 1) := by decide +kernel
theorem dX8_removeBehind_4 : decode cX8_removeBehind 4 = .ok (.iload_n 2, 1) := by decide +kernel
theorem dX8_removeBehind_5 : decode cX8_removeBehind 5 = .ok (.aload_n 0, 1) := by decide +kernel
theorem dX8_removeBehind_6 : decode cX8_removeBehind 6 = .ok (.getfield 21, 3) := by decide +kernel
theorem dX8_removeBehind_9 : decode cX8_removeBehind 9 = .ok (.iconst 1, 1) := by decide +kernel
theorem dX8_removeBehind_10 : decode cX8_removeBehind 10 = .ok (.isub, 1) := by decide +kernel
theorem dX8_removeBehind_11 : decode cX8_removeBehind 11 = .ok (.if_icmp .ge 17, 3) := by decide +kernel
theorem dX8_removeBehind_14 : decode cX8_removeBehind 14 = .ok (.aload_n 0, 1) := by decide +kernel
theorem dX8_removeBehind_15 : decode cX8_removeBehind 15 = .ok (.iload_n 2, 1) := by decide +kernel
theorem dX8_removeBehind_16 : decode cX8_removeBehind 16 = .ok (.iconst 1, 1) := by decide +kernel
theorem dX8_removeBehind_17 : decode cX8_removeBehind 17 = .ok (.iadd, 1) := by decide +kernel
theorem dX8_removeBehind_18 : decode cX8_removeBehind 18 = .ok (.iload_n 2, 1) := by decide +kernel
theorem dX8_removeBehind_19 : decode cX8_removeBehind 19 = .ok (.invokevirtual 28, 3) := by decide +kernel
theorem dX8_removeBehind_22 : decode cX8_removeBehind 22 = .ok (.iinc 2 1, 3) := by decide +kernel
theorem dX8_removeBehind_25 : decode cX8_removeBehind 25 = .ok (.goto (-21), 3) := by decide +kernel
theorem dX8_removeBehind_28 : decode cX8_removeBehind 28 = .ok (.aload_n 0, 1) := by decide +kernel
theorem dX8_removeBehind_29 : decode cX8_removeBehind 29 = .ok (.dup, 1) := by decide +kernel
theorem dX8_removeBehind_30 : decode cX8_removeBehind 30 = .ok (.getfield 21, 3) := by decide +kernel
theorem dX8_removeBehind_33 : decode cX8_removeBehind 33 = .ok (.iconst 1, 1) := by decide +kernel
theorem dX8_removeBehind_34 : decode cX8_removeBehind 34 = .ok (.isub, 1) := by decide +kernel
theorem dX8_removeBehind_35 : decode cX8_removeBehind 35 = .ok (.putfield 21, 3) := by decide +kernel
theorem dX8_removeBehind_38 : decode cX8_removeBehind 38 = .ok (.return_, 1) := by decide +kernel
theorem dX8_copyRow_0 : decode cX8_copyRow 0 = .ok (.aload_n 0, 1) := by decide +kernel
theorem dX8_copyRow_1 : decode cX8_copyRow 1 = .ok (.getfield 9, 3) := by decide +kernel
theorem dX8_copyRow_4 : decode cX8_copyRow 4 = .ok (.iload_n 2, 1) := by decide +kernel
theorem dX8_copyRow_5 : decode cX8_copyRow 5 = .ok (.aload_n 0, 1) := by decide +kernel
theorem dX8_copyRow_6 : decode cX8_copyRow 6 = .ok (.getfield 9, 3) := by decide +kernel
theorem dX8_copyRow_9 : decode cX8_copyRow 9 = .ok (.iload_n 1, 1) := by decide +kernel
theorem dX8_copyRow_10 : decode cX8_copyRow 10 = .ok (.iaload, 1) := by decide +kernel
theorem dX8_copyRow_11 : decode cX8_copyRow 11 = .ok (.iastore, 1) := by decide +kernel
theorem dX8_copyRow_12 : decode cX8_copyRow 12 = .ok (.aload_n 0, 1) := by decide +kernel
theorem dX8_copyRow_13 : decode cX8_copyRow 13 = .ok (.getfield 15, 3) := by decide +kernel
theorem dX8_copyRow_16 : decode cX8_copyRow 16 = .ok (.iload_n 2, 1) := by decide +kernel
theorem dX8_copyRow_17 : decode cX8_copyRow 17 = .ok (.aload_n 0, 1) := by decide +kernel
theorem dX8_copyRow_18 : decode cX8_copyRow 18 = .ok (.getfield 15, 3) := by decide +kernel
theorem dX8_copyRow_21 : decode cX8_copyRow 21 = .ok (.iload_n 1, 1) := by decide +kernel
theorem dX8_copyRow_22 : decode cX8_copyRow 22 = .ok (.iaload, 1) := by decide +kernel
theorem dX8_copyRow_23 : decode cX8_copyRow 23 = .ok (.iastore, 1) := by decide +kernel
theorem dX8_copyRow_24 : decode cX8_copyRow 24 = .ok (.aload_n 0, 1) := by decide +kernel
theorem dX8_copyRow_25 : decode cX8_copyRow 25 = .ok (.getfield 18, 3) := by decide +kernel
theorem dX8_copyRow_28 : decode cX8_copyRow 28 = .ok (.iload_n 2, 1) := by decide +kernel
theorem dX8_copyRow_29 : decode cX8_copyRow 29 = .ok (.aload_n 0, 1) := by decide +kernel
theorem dX8_copyRow_30 : decode cX8_copyRow 30 = .ok (.getfield 18, 3) := by decide +kernel
theorem dX8_copyRow_33 : decode cX8_copyRow 33 = .ok (.iload_n 1, 1) := by decide +kernel
theorem dX8_copyRow_34 : decode cX8_copyRow 34 = .ok (.iaload, 1) := by decide +kernel
theorem dX8_copyRow_35 : decode cX8_copyRow 35 = .ok (.iastore, 1) := by decide +kernel
theorem dX8_copyRow_36 : decode cX8_copyRow 36 = .ok (.return_, 1) := by decide +kernel
theorem dX8_copyFrom_0 : decode cX8_copyFrom 0 = .ok (.aload_n 0, 1) := by decide +kernel
theorem dX8_copyFrom_1 : decode cX8_copyFrom 1 = .ok (.aload_n 1, 1) := by decide +kernel
theorem dX8_copyFrom_2 : decode cX8_copyFrom 2 = .ok (.getfield 21, 3) := by decide +kernel
theorem dX8_copyFrom_5 : decode cX8_copyFrom 5 = .ok (.putfield 21, 3) := by decide +kernel
theorem dX8_copyFrom_8 : decode cX8_copyFrom 8 = .ok (.aload_n 0, 1) := by decide +kernel
theorem dX8_copyFrom_9 : decode cX8_copyFrom 9 = .ok (.aload_n 1, 1) := by decide +kernel
theorem dX8_copyFrom_10 : decode cX8_copyFrom 10 = .ok (.getfield 25, 3) := by decide +kernel
theorem dX8_copyFrom_13 : decode cX8_copyFrom 13 = .ok (.putfield 25, 3) := by decide +kernel
theorem dX8_copyFrom_16 : decode cX8_copyFrom 16 = .ok (.aload_n 1, 1) := by decide +kernel
theorem dX8_copyFrom_17 : decode cX8_copyFrom 17 = .ok (.getfield 9, 3) := by decide +kernel
theorem dX8_copyFrom_20 : decode cX8_copyFrom 20 = .ok (.iconst 0, 1) := by decide +kernel
theorem dX8_copyFrom_21 : decode cX8_copyFrom 21 = .ok (.aload_n 0, 1) := by decide +kernel
theorem dX8_copyFrom_22 : decode cX8_copyFrom 22 = .ok (.getfield 9, 3) := by decide +kernel
theorem dX8_copyFrom_25 : decode cX8_copyFrom 25 = .ok (.iconst 0, 1) := by decide +kernel
theorem dX8_copyFrom_26 : decode cX8_copyFrom 26 = .ok (.aload_n 0, 1) := by decide +kernel
theorem dX8_copyFrom_27 : decode cX8_copyFrom 27 = .ok (.getfield 21, 3) := by decide +kernel
theorem dX8_copyFrom_30 : decode cX8_copyFrom 30 = .ok (.invokestatic 32, 3) := by decide +kernel
theorem dX8_copyFrom_33 : decode cX8_copyFrom 33 = .ok (.aload_n 1, 1) := by decide +kernel
theorem dX8_copyFrom_34 : decode cX8_copyFrom 34 = .ok (.getfield 15, 3) := by decide +kernel
theorem dX8_copyFrom_37 : decode cX8_copyFrom 37 = .ok (.iconst 0, 1) := by decide +kernel
theorem dX8_copyFrom_38 : decode cX8_copyFrom 38 = .ok (.aload_n 0, 1) := by decide +kernel
theorem dX8_copyFrom_39 : decode cX8_copyFrom 39 = .ok (.getfield 15, 3) := by decide +kernel
theorem dX8_copyFrom_42 : decode cX8_copyFrom 42 = .ok (.iconst 0, 1) := by decide +kernel
theorem dX8_copyFrom_43 : decode cX8_copyFrom 43 = .ok (.aload_n 0, 1) := by decide +kernel
theorem dX8_copyFrom_44 : decode cX8_copyFrom 44 = .ok (.getfield 21, 3) := by decide +kernel
theorem dX8_copyFrom_47 : decode cX8_copyFrom 47 = .ok (.invokestatic 32, 3) := by decide +kernel
theorem dX8_copyFrom_50 : decode cX8_copyFrom 50 = .ok (.aload_n 1, 1) := by decide +kernel
theorem dX8_copyFrom_51 : decode cX8_copyFrom 51 = .ok (.getfield 18, 3) := by decide +kernel
theorem dX8_copyFrom_54 : decode cX8_copyFrom 54 = .ok (.iconst 0, 1) := by decide +kernel
theorem dX8_copyFrom_55 : decode cX8_copyFrom 55 = .ok (.aload_n 0, 1) := by decide +kernel
theorem dX8_copyFrom_56 : decode cX8_copyFrom 56 = .ok (.getfield 18, 3) := by decide +kernel
theorem dX8_copyFrom_59 : decode cX8_copyFrom 59 = .ok (.iconst 0, 1) := by decide +kernel
theorem dX8_copyFrom_60 : decode cX8_copyFrom 60 = .ok (.aload_n 0, 1) := by decide +kernel
theorem dX8_copyFrom_61 : decode cX8_copyFrom 61 = .ok (.getfield 21, 3) := by decide +kernel
theorem dX8_copyFrom_64 : decode cX8_copyFrom 64 = .ok (.invokestatic 32, 3) := by decide +kernel
theorem dX8_copyFrom_67 : decode cX8_copyFrom 67 = .ok (.return_, 1) := by decide +kernel
