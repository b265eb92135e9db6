theorem dX5_init_0 : decode cX5_init 0 = .ok (.aload_n 0, 1) := by decide +kernel
theorem dX5_init_1 : decode cX5_init 1 = .ok (.invokespecial 3, 3) := by decide +kernel
theorem dX5_init_4 : decode cX5_init 4 = .ok (.aload_n 0, 1) := by decide +kernel
theorem dX5_init_5 : decode cX5_init 5 = .ok (.bipush 22, 2) := by decide +kernel
theorem dX5_init_7 : decode cX5_init 7 = .ok (.newarray .int, 2) := by decide +kernel
theorem dX5_init_9 : decode cX5_init 9 = .ok (.putfield 9, 3) := by decide +kernel
theorem dX5_init_12 : decode cX5_init 12 = .ok (.getstatic 13, 3) := by decide +kernel
theorem dX5_init_15 : decode cX5_init 15 = .ok (.iconst 0, 1) := by decide +kernel
theorem dX5_init_16 : decode cX5_init 16 = .ok (.aload_n 0, 1) := by decide +kernel
theorem dX5_init_17 : decode cX5_init 17 = .ok (.getfield 9, 3) := by decide +kernel
theorem dX5_init_20 : decode cX5_init 20 = .ok (.iconst 0, 1) := by decide +kernel
theorem dX5_init_21 : decode cX5_init 21 = .ok (.bipush 22, 2) := by decide +kernel
theorem dX5_init_23 : decode cX5_init 23 = .ok (.invokestatic 16, 3) := by decide +kernel
theorem dX5_init_26 : decode cX5_init 26 = .ok (.aload_n 0, 1) := by decide +kernel
theorem dX5_init_27 : decode cX5_init 27 = .ok (.new 22, 3) := by decide +kernel
theorem dX5_init_30 : decode cX5_init 30 = .ok (.dup, 1) := by decide +kernel
theorem dX5_init_31 : decode cX5_init 31 = .ok (.invokespecial 24, 3) := by decide +kernel
theorem dX5_init_34 : decode cX5_init 34 = .ok (.putfield 25, 3) := by decide +kernel
theorem dX5_init_37 : decode cX5_init 37 = .ok (.aload_n 0, 1) := by decide +kernel
theorem dX5_init_38 : decode cX5_init 38 = .ok (.new 29, 3) := by decide +kernel
theorem dX5_init_41 : decode cX5_init 41 = .ok (.dup, 1) := by decide +kernel
theorem dX5_init_42 : decode cX5_init 42 = .ok (.invokespecial 31, 3) := by decide +kernel
theorem dX5_init_45 : decode cX5_init 45 = .ok (.putfield 32, 3) := by decide +kernel
theorem dX5_init_48 : decode cX5_init 48 = .ok (.aload_n 0, 1) := by decide +kernel
theorem dX5_init_49 : decode cX5_init 49 = .ok (.new 36, 3) := by decide +kernel
theorem dX5_init_52 : decode cX5_init 52 = .ok (.dup, 1) := by decide +kernel
theorem dX5_init_53 : decode cX5_init 53 = .ok (.invokespecial 38, 3) := by decide +kernel
theorem dX5_init_56 : decode cX5_init 56 = .ok (.putfield 39, 3) := by decide +kernel
theorem dX5_init_59 : decode cX5_init 59 = .ok (.aload_n 0, 1) := by decide +kernel
theorem dX5_init_60 : decode cX5_init 60 = .ok (.new 43, 3) := by decide +kernel
theorem dX5_init_63 : decode cX5_init 63 = .ok (.dup, 1) := by decide +kernel
theorem dX5_init_64 : decode cX5_init 64 = .ok (.iconst 1, 1) := by decide +kernel
theorem dX5_init_65 : decode cX5_init 65 = .ok (.invokespecial 45, 3) := by decide +kernel
theorem dX5_init_68 : decode cX5_init 68 = .ok (.putfield 48, 3) := by decide +kernel
theorem dX5_init_71 : decode cX5_init 71 = .ok (.aload_n 0, 1) := by decide +kernel
theorem dX5_init_72 : decode cX5_init 72 = .ok (.new 43, 3) := by decide +kernel
theorem dX5_init_75 : decode cX5_init 75 = .ok (.dup, 1) := by decide +kernel
theorem dX5_init_76 : decode cX5_init 76 = .ok (.iconst 0, 1) := by decide +kernel
theorem dX5_init_77 : decode cX5_init 77 = .ok (.invokespecial 45, 3) := by decide +kernel
theorem dX5_init_80 : decode cX5_init 80 = .ok (.putfield 52, 3) := by decide +kernel
theorem dX5_init_83 : decode cX5_init 83 = .ok (.aload_n 0, 1) := by decide +kernel
theorem dX5_init_84 : decode cX5_init 84 = .ok (.new 55, 3) := by decide +kernel
theorem dX5_init_87 : decode cX5_init 87 = .ok (.dup, 1) := by decide +kernel
theorem dX5_init_88 : decode cX5_init 88 = .ok (.invokespecial 57, 3) := by decide +kernel
theorem dX5_init_91 : decode cX5_init 91 = .ok (.putfield 58, 3) := by decide +kernel
theorem dX5_init_94 : decode cX5_init 94 = .ok (.aload_n 0, 1) := by decide +kernel
theorem dX5_init_95 : decode cX5_init 95 = .ok (.lconst 1, 1) := by decide +kernel
theorem dX5_init_96 : decode cX5_init 96 = .ok (.putfield 62, 3) := by decide +kernel
theorem dX5_init_99 : decode cX5_init 99 = .ok (.return_, 1) := by decide +kernel
theorem dX5_type_0 : decode cX5_type 0 = .ok (.iload_n 1, 1) := by decide +kernel
theorem dX5_type_1 : decode cX5_type 1 = .ok (.bipush 32, 2) := by decide +kernel
theorem dX5_type_3 : decode cX5_type 3 = .ok (.if_icmp .lt 9, 3) := by decide +kernel
theorem dX5_type_6 : decode cX5_type 6 = .ok (.iload_n 1, 1) := by decide +kernel
theorem dX5_type_7 : decode cX5_type 7 = .ok (.bipush 126, 2) := by decide +kernel
theorem dX5_type_9 : decode cX5_type 9 = .ok (.if_icmp .le 5, 3) := by decide +kernel
theorem dX5_type_12 : decode cX5_type 12 = .ok (.iconst (-1), 1) := by decide +kernel
theorem dX5_type_13 : decode cX5_type 13 = .ok (.ireturn, 1) := by decide +kernel
theorem dX5_type_14 : decode cX5_type 14 = .ok (.aload_n 0, 1) := by decide +kernel
theorem dX5_type_15 : decode cX5_type 15 = .ok (.getfield 25, 3) := by decide +kernel
theorem dX5_type_18 : decode cX5_type 18 = .ok (.invokevirtual 66, 3) := by decide +kernel
theorem dX5_type_21 : decode cX5_type 21 = .ok (.ifCond .eq 6, 3) := by decide +kernel
theorem dX5_type_24 : decode cX5_type 24 = .ok (.bipush (-3), 2) := by decide +kernel
theorem dX5_type_26 : decode cX5_type 26 = .ok (.ireturn, 1) := by decide +kernel
theorem dX5_type_27 : decode cX5_type 27 = .ok (.aload_n 0, 1) := by decide +kernel
theorem dX5_type_28 : decode cX5_type 28 = .ok (.getfield 25, 3) := by decide +kernel
theorem dX5_type_31 : decode cX5_type 31 = .ok (.iload_n 1, 1) := by decide +kernel
theorem dX5_type_32 : decode cX5_type 32 = .ok (.invokevirtual 70, 3) := by decide +kernel
theorem dX5_type_35 : decode cX5_type 35 = .ok (.ireturn, 1) := by decide +kernel
theorem dX5_clearText_0 : decode cX5_clearText 0 = .ok (.aload_n 0, 1) := by decide +kernel
theorem dX5_clearText_1 : decode cX5_clearText 1 = .ok (.getfield 25, 3) := by decide +kernel
theorem dX5_clearText_4 : decode cX5_clearText 4 = .ok (.invokevirtual 74, 3) := by decide +kernel
theorem dX5_clearText_7 : decode cX5_clearText 7 = .ok (.ireturn, 1) := by decide +kernel
theorem dX5_load_0 : decode cX5_load 0 = .ok (.aload_n 0, 1) := by decide +kernel
theorem dX5_load_1 : decode cX5_load 1 = .ok (.getfield 25, 3) := by decide +kernel
theorem dX5_load_4 : decode cX5_load 4 = .ok (.aload_n 0, 1) := by decide +kernel
theorem dX5_load_5 : decode cX5_load 5 = .ok (.getfield 9, 3) := by decide +kernel
theorem dX5_load_8 : decode cX5_load 8 = .ok (.invokevirtual 78, 3) := by decide +kernel
theorem dX5_load_11 : decode cX5_load 11 = .ok (.aload_n 0, 1) := by decide +kernel
theorem dX5_load_12 : decode cX5_load 12 = .ok (.aload_n 0, 1) := by decide +kernel
theorem dX5_load_13 : decode cX5_load 13 = .ok (.getfield 25, 3) := by decide +kernel
theorem dX5_load_16 : decode cX5_load 16 = .ok (.invokevirtual 82, 3) := by decide +kernel
theorem dX5_load_19 : decode cX5_load 19 = .ok (.putfield 85, 3) := by decide +kernel
theorem dX5_load_22 : decode cX5_load 22 = .ok (.aload_n 0, 1) := by decide +kernel
theorem dX5_load_23 : decode cX5_load 23 = .ok (.getfield 85, 3) := by decide +kernel
theorem dX5_load_26 : decode cX5_load 26 = .ok (.ifCond .eq 14, 3) := by decide +kernel
theorem dX5_load_29 : decode cX5_load 29 = .ok (.bipush (-10), 2) := by decide +kernel
theorem dX5_load_31 : decode cX5_load 31 = .ok (.aload_n 0, 1) := by decide +kernel
theorem dX5_load_32 : decode cX5_load 32 = .ok (.getfield 25, 3) := by decide +kernel
theorem dX5_load_35 : decode cX5_load 35 = .ok (.invokevirtual 89, 3) := by decide +kernel
theorem dX5_load_38 : decode cX5_load 38 = .ok (.isub, 1) := by decide +kernel
theorem dX5_load_39 : decode cX5_load 39 = .ok (.ireturn, 1) := by decide +kernel
theorem dX5_load_40 : decode cX5_load 40 = .ok (.aload_n 0, 1) := by decide +kernel
theorem dX5_load_41 : decode cX5_load 41 = .ok (.invokevirtual 92, 3) := by decide +kernel
theorem dX5_load_44 : decode cX5_load 44 = .ok (.aload_n 0, 1) := by decide +kernel
theorem dX5_load_45 : decode cX5_load 45 = .ok (.getfield 25, 3) := by decide +kernel
theorem dX5_load_48 : decode cX5_load 48 = .ok (.aload_n 0, 1) := by decide +kernel
theorem dX5_load_49 : decode cX5_load 49 = .ok (.getfield 9, 3) := by decide +kernel
theorem dX5_load_52 : decode cX5_load 52 = .ok (.invokevirtual 95, 3) := by decide +kernel
theorem dX5_load_55 : decode cX5_load 55 = .ok (.aload_n 0, 1) := by decide +kernel
theorem dX5_load_56 : decode cX5_load 56 = .ok (.getfield 25, 3) := by decide +kernel
theorem dX5_load_59 : decode cX5_load 59 = .ok (.invokevirtual 98, 3) := by decide +kernel
theorem dX5_load_62 : decode cX5_load 62 = .ok (.ireturn, 1) := by decide +kernel
theorem dX5_faultKind_0 : decode cX5_faultKind 0 = .ok (.aload_n 0, 1) := by decide +kernel
theorem dX5_faultKind_1 : decode cX5_faultKind 1 = .ok (.getfield 85, 3) := by decide +kernel
theorem dX5_faultKind_4 : decode cX5_faultKind 4 = .ok (.ireturn, 1) := by decide +kernel
theorem dX5_setCount_0 : decode cX5_setCount 0 = .ok (.iload_n 1, 1) := by decide +kernel
theorem dX5_setCount_1 : decode cX5_setCount 1 = .ok (.ifCond .lt 8, 3) := by decide +kernel
theorem dX5_setCount_4 : decode cX5_setCount 4 = .ok (.iload_n 1, 1) := by decide +kernel
theorem dX5_setCount_5 : decode cX5_setCount 5 = .ok (.iconst 2, 1) := by decide +kernel
theorem dX5_setCount_6 : decode cX5_setCount 6 = .ok (.if_icmp .le 5, 3) := by decide +kernel
theorem dX5_setCount_9 : decode cX5_setCount 9 = .ok (.iconst (-1), 1) := by decide +kernel
theorem dX5_setCount_10 : decode cX5_setCount 10 = .ok (.ireturn, 1) := by decide +kernel
theorem dX5_setCount_11 : decode cX5_setCount 11 = .ok (.aload_n 0, 1) := by decide +kernel
theorem dX5_setCount_12 : decode cX5_setCount 12 = .ok (.iload_n 1, 1) := by decide +kernel
theorem dX5_setCount_13 : decode cX5_setCount 13 = .ok (.iload_n 2, 1) := by decide +kernel
theorem dX5_setCount_14 : decode cX5_setCount 14 = .ok (.invokevirtual 101, 3) := by decide +kernel
theorem dX5_setCount_17 : decode cX5_setCount 17 = .ok (.ireturn, 1) := by decide +kernel
theorem dX5_setPayoff_0 : decode cX5_setPayoff 0 = .ok (.iload_n 1, 1) := by decide +kernel
theorem dX5_setPayoff_1 : decode cX5_setPayoff 1 = .ok (.iconst 1, 1) := by decide +kernel
theorem dX5_setPayoff_2 : decode cX5_setPayoff 2 = .ok (.if_icmp .lt 9, 3) := by decide +kernel
theorem dX5_setPayoff_5 : decode cX5_setPayoff 5 = .ok (.iload_n 1, 1) := by decide +kernel
theorem dX5_setPayoff_6 : decode cX5_setPayoff 6 = .ok (.bipush 7, 2) := by decide +kernel
theorem dX5_setPayoff_8 : decode cX5_setPayoff 8 = .ok (.if_icmp .le 5, 3) := by decide +kernel
theorem dX5_setPayoff_11 : decode cX5_setPayoff 11 = .ok (.iconst (-1), 1) := by decide +kernel
theorem dX5_setPayoff_12 : decode cX5_setPayoff 12 = .ok (.ireturn, 1) := by decide +kernel
theorem dX5_setPayoff_13 : decode cX5_setPayoff 13 = .ok (.aload_n 0, 1) := by decide +kernel
theorem dX5_setPayoff_14 : decode cX5_setPayoff 14 = .ok (.iconst 3, 1) := by decide +kernel
theorem dX5_setPayoff_15 : decode cX5_setPayoff 15 = .ok (.iload_n 1, 1) := by decide +kernel
theorem dX5_setPayoff_16 : decode cX5_setPayoff 16 = .ok (.iadd, 1) := by decide +kernel
theorem dX5_setPayoff_17 : decode cX5_setPayoff 17 = .ok (.iconst 1, 1) := by decide +kernel
theorem dX5_setPayoff_18 : decode cX5_setPayoff 18 = .ok (.isub, 1) := by decide +kernel
theorem dX5_setPayoff_19 : decode cX5_setPayoff 19 = .ok (.iload_n 2, 1) := by decide +kernel
theorem dX5_setPayoff_20 : decode cX5_setPayoff 20 = .ok (.invokevirtual 101, 3) := by decide +kernel
theorem dX5_setPayoff_23 : decode cX5_setPayoff 23 = .ok (.ireturn, 1) := by decide +kernel
theorem dX5_setLevel_0 : decode cX5_setLevel 0 = .ok (.iload_n 1, 1) := by decide +kernel
theorem dX5_setLevel_1 : decode cX5_setLevel 1 = .ok (.invokestatic 105, 3) := by decide +kernel
theorem dX5_setLevel_4 : decode cX5_setLevel 4 = .ok (.ifCond .eq 5, 3) := by decide +kernel
theorem dX5_setLevel_7 : decode cX5_setLevel 7 = .ok (.iconst (-1), 1) := by decide +kernel
theorem dX5_setLevel_8 : decode cX5_setLevel 8 = .ok (.ireturn, 1) := by decide +kernel
theorem dX5_setLevel_9 : decode cX5_setLevel 9 = .ok (.aload_n 0, 1) := by decide +kernel
theorem dX5_setLevel_10 : decode cX5_setLevel 10 = .ok (.bipush 10, 2) := by decide +kernel
theorem dX5_setLevel_12 : decode cX5_setLevel 12 = .ok (.iload_n 1, 1) := by decide +kernel
theorem dX5_setLevel_13 : decode cX5_setLevel 13 = .ok (.iadd, 1) := by decide +kernel
theorem dX5_setLevel_14 : decode cX5_setLevel 14 = .ok (.iload_n 2, 1) := by decide +kernel
theorem dX5_setLevel_15 : decode cX5_setLevel 15 = .ok (.invokevirtual 101, 3) := by decide +kernel
theorem dX5_setLevel_18 : decode cX5_setLevel 18 = .ok (.ireturn, 1) := by decide +kernel
theorem dX5_setRecall_0 : decode cX5_setRecall 0 = .ok (.iload_n 1, 1) := by decide +kernel
theorem dX5_setRecall_1 : decode cX5_setRecall 1 = .ok (.iconst 1, 1) := by decide +kernel
theorem dX5_setRecall_2 : decode cX5_setRecall 2 = .ok (.if_icmp .lt 8, 3) := by decide +kernel
theorem dX5_setRecall_5 : decode cX5_setRecall 5 = .ok (.iload_n 1, 1) := by decide +kernel
theorem dX5_setRecall_6 : decode cX5_setRecall 6 = .ok (.iconst 2, 1) := by decide +kernel
theorem dX5_setRecall_7 : decode cX5_setRecall 7 = .ok (.if_icmp .le 5, 3) := by decide +kernel
theorem dX5_setRecall_10 : decode cX5_setRecall 10 = .ok (.iconst (-1), 1) := by decide +kernel
theorem dX5_setRecall_11 : decode cX5_setRecall 11 = .ok (.ireturn, 1) := by decide +kernel
theorem dX5_setRecall_12 : decode cX5_setRecall 12 = .ok (.aload_n 0, 1) := by decide +kernel
theorem dX5_setRecall_13 : decode cX5_setRecall 13 = .ok (.bipush 20, 2) := by decide +kernel
theorem dX5_setRecall_15 : decode cX5_setRecall 15 = .ok (.iload_n 1, 1) := by decide +kernel
theorem dX5_setRecall_16 : decode cX5_setRecall 16 = .ok (.iadd, 1) := by decide +kernel
theorem dX5_setRecall_17 : decode cX5_setRecall 17 = .ok (.iconst 1, 1) := by decide +kernel
theorem dX5_setRecall_18 : decode cX5_setRecall 18 = .ok (.isub, 1) := by decide +kernel
theorem dX5_setRecall_19 : decode cX5_setRecall 19 = .ok (.iload_n 2, 1) := by decide +kernel
theorem dX5_setRecall_20 : decode cX5_setRecall 20 = .ok (.invokevirtual 101, 3) := by decide +kernel
theorem dX5_setRecall_23 : decode cX5_setRecall 23 = .ok (.ireturn, 1) := by decide +kernel
theorem dX5_shiftWeight_0 : decode cX5_shiftWeight 0 = .ok (.iload_n 1, 1) := by decide +kernel
theorem dX5_shiftWeight_1 : decode cX5_shiftWeight 1 = .ok (.invokestatic 105, 3) := by decide +kernel
theorem dX5_shiftWeight_4 : decode cX5_shiftWeight 4 = .ok (.ifCond .ne 10, 3) := by decide +kernel
theorem dX5_shiftWeight_7 : decode cX5_shiftWeight 7 = .ok (.iload_n 2, 1) := by decide +kernel
theorem dX5_shiftWeight_8 : decode cX5_shiftWeight 8 = .ok (.invokestatic 105, 3) := by decide +kernel
theorem dX5_shiftWeight_11 : decode cX5_shiftWeight 11 = .ok (.ifCond .eq 5, 3) := by decide +kernel
theorem dX5_shiftWeight_14 : decode cX5_shiftWeight 14 = .ok (.iconst (-1), 1) := by decide +kernel
theorem dX5_shiftWeight_15 : decode cX5_shiftWeight 15 = .ok (.ireturn, 1) := by decide +kernel
theorem dX5_shiftWeight_16 : decode cX5_shiftWeight 16 = .ok (.iload_n 3, 1) := by decide +kernel
theorem dX5_shiftWeight_17 : decode cX5_shiftWeight 17 = .ok (.ifCond .lt 16, 3) := by decide +kernel
theorem dX5_shiftWeight_20 : decode cX5_shiftWeight 20 = .ok (.iload_n 3, 1) := by decide +kernel
theorem dX5_shiftWeight_21 : decode cX5_shiftWeight 21 = .ok (.aload_n 0, 1) := by decide +kernel
theorem dX5_shiftWeight_22 : decode cX5_shiftWeight 22 = .ok (.getfield 9, 3) := by decide +kernel
theorem dX5_shiftWeight_25 : decode cX5_shiftWeight 25 = .ok (.bipush 15, 2) := by decide +kernel
theorem dX5_shiftWeight_27 : decode cX5_shiftWeight 27 = .ok (.iload_n 1, 1) := by decide +kernel
theorem dX5_shiftWeight_28 : decode cX5_shiftWeight 28 = .ok (.iadd, 1) := by decide +kernel
theorem dX5_shiftWeight_29 : decode cX5_shiftWeight 29 = .ok (.iaload, 1) := by decide +kernel
theorem dX5_shiftWeight_30 : decode cX5_shiftWeight 30 = .ok (.if_icmp .le 5, 3) := by decide +kernel
theorem dX5_shiftWeight_33 : decode cX5_shiftWeight 33 = .ok (.iconst (-1), 1) := by decide +kernel
theorem dX5_shiftWeight_34 : decode cX5_shiftWeight 34 = .ok (.ireturn, 1) := by decide +kernel
theorem dX5_shiftWeight_35 : decode cX5_shiftWeight 35 = .ok (.aload_n 0, 1) := by decide +kernel
theorem dX5_shiftWeight_36 : decode cX5_shiftWeight 36 = .ok (.invokevirtual 92, 3) := by decide +kernel
theorem dX5_shiftWeight_39 : decode cX5_shiftWeight 39 = .ok (.aload_n 0, 1) := by decide +kernel
theorem dX5_shiftWeight_40 : decode cX5_shiftWeight 40 = .ok (.getfield 9, 3) := by decide +kernel
theorem dX5_shiftWeight_43 : decode cX5_shiftWeight 43 = .ok (.bipush 15, 2) := by decide +kernel
theorem dX5_shiftWeight_45 : decode cX5_shiftWeight 45 = .ok (.iload_n 1, 1) := by decide +kernel
theorem dX5_shiftWeight_46 : decode cX5_shiftWeight 46 = .ok (.iadd, 1) := by decide +kernel
theorem dX5_shiftWeight_47 : decode cX5_shiftWeight 47 = .ok (.dup2, 1) := by decide +kernel
theorem dX5_shiftWeight_48 : decode cX5_shiftWeight 48 = .ok (.iaload, 1) := by decide +kernel
theorem dX5_shiftWeight_49 : decode cX5_shiftWeight 49 = .ok (.iload_n 3, 1) := by decide +kernel
theorem dX5_shiftWeight_50 : decode cX5_shiftWeight 50 = .ok (.isub, 1) := by decide +kernel
theorem dX5_shiftWeight_51 : decode cX5_shiftWeight 51 = .ok (.iastore, 1) := by decide +kernel
theorem dX5_shiftWeight_52 : decode cX5_shiftWeight 52 = .ok (.aload_n 0, 1) := by decide +kernel
theorem dX5_shiftWeight_53 : decode cX5_shiftWeight 53 = .ok (.getfield 9, 3) := by decide +kernel
theorem dX5_shiftWeight_56 : decode cX5_shiftWeight 56 = .ok (.bipush 15, 2) := by decide +kernel
theorem dX5_shiftWeight_58 : decode cX5_shiftWeight 58 = .ok (.iload_n 2, 1) := by decide +kernel
theorem dX5_shiftWeight_59 : decode cX5_shiftWeight 59 = .ok (.iadd, 1) := by decide +kernel
theorem dX5_shiftWeight_60 : decode cX5_shiftWeight 60 = .ok (.dup2, 1) := by decide +kernel
theorem dX5_shiftWeight_61 : decode cX5_shiftWeight 61 = .ok (.iaload, 1) := by decide +kernel
theorem dX5_shiftWeight_62 : decode cX5_shiftWeight 62 = .ok (.iload_n 3, 1) := by decide +kernel
theorem dX5_shiftWeight_63 : decode cX5_shiftWeight 63 = .ok (.iadd, 1) := by decide +kernel
theorem dX5_shiftWeight_64 : decode cX5_shiftWeight 64 = .ok (.iastore, 1) := by decide +kernel
theorem dX5_shiftWeight_65 : decode cX5_shiftWeight 65 = .ok (.aload_n 0, 1) := by decide +kernel
theorem dX5_shiftWeight_66 : decode cX5_shiftWeight 66 = .ok (.getfield 9, 3) := by decide +kernel
theorem dX5_shiftWeight_69 : decode cX5_shiftWeight 69 = .ok (.bipush 15, 2) := by decide +kernel
theorem dX5_shiftWeight_71 : decode cX5_shiftWeight 71 = .ok (.iload_n 2, 1) := by decide +kernel
theorem dX5_shiftWeight_72 : decode cX5_shiftWeight 72 = .ok (.iadd, 1) := by decide +kernel
theorem dX5_shiftWeight_73 : decode cX5_shiftWeight 73 = .ok (.iaload, 1) := by decide +kernel
theorem dX5_shiftWeight_74 : decode cX5_shiftWeight 74 = .ok (.ireturn, 1) := by decide +kernel
theorem dX5_parameter_0 : decode cX5_parameter 0 = .ok (.iload_n 1, 1) := by decide +kernel
theorem dX5_parameter_1 : decode cX5_parameter 1 = .ok (.ifCond .lt 9, 3) := by decide +kernel
theorem dX5_parameter_4 : decode cX5_parameter 4 = .ok (.iload_n 1, 1) := by decide +kernel
theorem dX5_parameter_5 : decode cX5_parameter 5 = .ok (.bipush 22, 2) := by decide +kernel
theorem dX5_parameter_7 : decode cX5_parameter 7 = .ok (.if_icmp .lt 5, 3) := by decide +kernel
theorem dX5_parameter_10 : decode cX5_parameter 10 = .ok (.iconst (-1), 1) := by decide +kernel
theorem dX5_parameter_11 : decode cX5_parameter 11 = .ok (.ireturn, 1) := by decide +kernel
theorem dX5_parameter_12 : decode cX5_parameter 12 = .ok (.aload_n 0, 1) := by decide +kernel
theorem dX5_parameter_13 : decode cX5_parameter 13 = .ok (.getfield 9, 3) := by decide +kernel
theorem dX5_parameter_16 : decode cX5_parameter 16 = .ok (.iload_n 1, 1) := by decide +kernel
theorem dX5_parameter_17 : decode cX5_parameter 17 = .ok (.iaload, 1) := by decide +kernel
theorem dX5_parameter_18 : decode cX5_parameter 18 = .ok (.ireturn, 1) := by decide +kernel
theorem dX5_worth_0 : decode cX5_worth 0 = .ok (.aload_n 0, 1) := by decide +kernel
theorem dX5_worth_1 : decode cX5_worth 1 = .ok (.iload_n 1, 1) := by decide +kernel
theorem dX5_worth_2 : decode cX5_worth 2 = .ok (.invokevirtual 109, 3) := by decide +kernel
theorem dX5_worth_5 : decode cX5_worth 5 = .ok (.ifCond .ne 13, 3) := by decide +kernel
theorem dX5_worth_8 : decode cX5_worth 8 = .ok (.iload_n 2, 1) := by decide +kernel
theorem dX5_worth_9 : decode cX5_worth 9 = .ok (.iconst 1, 1) := by decide +kernel
theorem dX5_worth_10 : decode cX5_worth 10 = .ok (.if_icmp .lt 8, 3) := by decide +kernel
theorem dX5_worth_13 : decode cX5_worth 13 = .ok (.iload_n 2, 1) := by decide +kernel
theorem dX5_worth_14 : decode cX5_worth 14 = .ok (.iload_n 1, 1) := by decide +kernel
theorem dX5_worth_15 : decode cX5_worth 15 = .ok (.if_icmp .le 7, 3) := by decide +kernel
theorem dX5_worth_18 : decode cX5_worth 18 = .ok (.ldc2_w 112, 3) := by decide +kernel
theorem dX5_worth_21 : decode cX5_worth 21 = .ok (.lreturn, 1) := by decide +kernel
theorem dX5_worth_22 : decode cX5_worth 22 = .ok (.aload_n 0, 1) := by decide +kernel
theorem dX5_worth_23 : decode cX5_worth 23 = .ok (.getfield 39, 3) := by decide +kernel
theorem dX5_worth_26 : decode cX5_worth 26 = .ok (.aload_n 0, 1) := by decide +kernel
theorem dX5_worth_27 : decode cX5_worth 27 = .ok (.getfield 9, 3) := by decide +kernel
theorem dX5_worth_30 : decode cX5_worth 30 = .ok (.invokevirtual 114, 3) := by decide +kernel
theorem dX5_worth_33 : decode cX5_worth 33 = .ok (.aload_n 0, 1) := by decide +kernel
theorem dX5_worth_34 : decode cX5_worth 34 = .ok (.aload_n 0, 1) := by decide +kernel
theorem dX5_worth_35 : decode cX5_worth 35 = .ok (.getfield 39, 3) := by decide +kernel
theorem dX5_worth_38 : decode cX5_worth 38 = .ok (.iload_n 1, 1) := by decide +kernel
theorem dX5_worth_39 : decode cX5_worth 39 = .ok (.iload_n 2, 1) := by decide +kernel
theorem dX5_worth_40 : decode cX5_worth 40 = .ok (.invokevirtual 117, 3) := by decide +kernel
theorem dX5_worth_43 : decode cX5_worth 43 = .ok (.ldc2_w 121, 3) := by decide +kernel
theorem dX5_worth_46 : decode cX5_worth 46 = .ok (.invokevirtual 123, 3) := by decide +kernel
theorem dX5_worth_49 : decode cX5_worth 49 = .ok (.lreturn, 1) := by decide +kernel
theorem dX5_rankValue_0 : decode cX5_rankValue 0 = .ok (.aload_n 0, 1) := by decide +kernel
theorem dX5_rankValue_1 : decode cX5_rankValue 1 = .ok (.iload_n 1, 1) := by decide +kernel
theorem dX5_rankValue_2 : decode cX5_rankValue 2 = .ok (.invokevirtual 127, 3) := by decide +kernel
theorem dX5_rankValue_5 : decode cX5_rankValue 5 = .ok (.ifCond .ne 11, 3) := by decide +kernel
theorem dX5_rankValue_8 : decode cX5_rankValue 8 = .ok (.aload_n 0, 1) := by decide +kernel
theorem dX5_rankValue_9 : decode cX5_rankValue 9 = .ok (.iload_n 2, 1) := by decide +kernel
theorem dX5_rankValue_10 : decode cX5_rankValue 10 = .ok (.invokevirtual 130, 3) := by decide +kernel
theorem dX5_rankValue_13 : decode cX5_rankValue 13 = .ok (.ifCond .eq 7, 3) := by decide +kernel
theorem dX5_rankValue_16 : decode cX5_rankValue 16 = .ok (.ldc2_w 112, 3) := by decide +kernel
theorem dX5_rankValue_19 : decode cX5_rankValue 19 = .ok (.lreturn, 1) := by decide +kernel
theorem dX5_rankValue_20 : decode cX5_rankValue 20 = .ok (.aload_n 0, 1) := by decide +kernel
theorem dX5_rankValue_21 : decode cX5_rankValue 21 = .ok (.getfield 39, 3) := by decide +kernel
theorem dX5_rankValue_24 : decode cX5_rankValue 24 = .ok (.aload_n 0, 1) := by decide +kernel
theorem dX5_rankValue_25 : decode cX5_rankValue 25 = .ok (.getfield 9, 3) := by decide +kernel
theorem dX5_rankValue_28 : decode cX5_rankValue 28 = .ok (.invokevirtual 114, 3) := by decide +kernel
theorem dX5_rankValue_31 : decode cX5_rankValue 31 = .ok (.aload_n 0, 1) := by decide +kernel
theorem dX5_rankValue_32 : decode cX5_rankValue 32 = .ok (.aload_n 0, 1) := by decide +kernel
theorem dX5_rankValue_33 : decode cX5_rankValue 33 = .ok (.getfield 39, 3) := by decide +kernel
theorem dX5_rankValue_36 : decode cX5_rankValue 36 = .ok (.iload_n 1, 1) := by decide +kernel
theorem dX5_rankValue_37 : decode cX5_rankValue 37 = .ok (.iload_n 2, 1) := by decide +kernel
theorem dX5_rankValue_38 : decode cX5_rankValue 38 = .ok (.invokevirtual 133, 3) := by decide +kernel
theorem dX5_rankValue_41 : decode cX5_rankValue 41 = .ok (.ldc2_w 121, 3) := by decide +kernel
theorem dX5_rankValue_44 : decode cX5_rankValue 44 = .ok (.invokevirtual 123, 3) := by decide +kernel
theorem dX5_rankValue_47 : decode cX5_rankValue 47 = .ok (.lreturn, 1) := by decide +kernel
theorem dX5_choosesRank_0 : decode cX5_choosesRank 0 = .ok (.aload_n 0, 1) := by decide +kernel
theorem dX5_choosesRank_1 : decode cX5_choosesRank 1 = .ok (.iload_n 1, 1) := by decide +kernel
theorem dX5_choosesRank_2 : decode cX5_choosesRank 2 = .ok (.invokevirtual 109, 3) := by decide +kernel
theorem dX5_choosesRank_5 : decode cX5_choosesRank 5 = .ok (.ifCond .ne 21, 3) := by decide +kernel
theorem dX5_choosesRank_8 : decode cX5_choosesRank 8 = .ok (.aload_n 0, 1) := by decide +kernel
theorem dX5_choosesRank_9 : decode cX5_choosesRank 9 = .ok (.iload_n 2, 1) := by decide +kernel
theorem dX5_choosesRank_10 : decode cX5_choosesRank 10 = .ok (.invokevirtual 136, 3) := by decide +kernel
theorem dX5_choosesRank_13 : decode cX5_choosesRank 13 = .ok (.ifCond .ne 13, 3) := by decide +kernel
theorem dX5_choosesRank_16 : decode cX5_choosesRank 16 = .ok (.iload_n 3, 1) := by decide +kernel
theorem dX5_choosesRank_17 : decode cX5_choosesRank 17 = .ok (.iconst 1, 1) := by decide +kernel
theorem dX5_choosesRank_18 : decode cX5_choosesRank 18 = .ok (.if_icmp .lt 8, 3) := by decide +kernel
theorem dX5_choosesRank_21 : decode cX5_choosesRank 21 = .ok (.iload_n 3, 1) := by decide +kernel
theorem dX5_choosesRank_22 : decode cX5_choosesRank 22 = .ok (.iload_n 1, 1) := by decide +kernel
theorem dX5_choosesRank_23 : decode cX5_choosesRank 23 = .ok (.if_icmp .le 5, 3) := by decide +kernel
theorem dX5_choosesRank_26 : decode cX5_choosesRank 26 = .ok (.iconst (-1), 1) := by decide +kernel
theorem dX5_choosesRank_27 : decode cX5_choosesRank 27 = .ok (.ireturn, 1) := by decide +kernel
theorem dX5_choosesRank_28 : decode cX5_choosesRank 28 = .ok (.aload_n 0, 1) := by decide +kernel
theorem dX5_choosesRank_29 : decode cX5_choosesRank 29 = .ok (.getfield 39, 3) := by decide +kernel
theorem dX5_choosesRank_32 : decode cX5_choosesRank 32 = .ok (.aload_n 0, 1) := by decide +kernel
theorem dX5_choosesRank_33 : decode cX5_choosesRank 33 = .ok (.getfield 9, 3) := by decide +kernel
theorem dX5_choosesRank_36 : decode cX5_choosesRank 36 = .ok (.invokevirtual 114, 3) := by decide +kernel
theorem dX5_choosesRank_39 : decode cX5_choosesRank 39 = .ok (.aload_n 0, 1) := by decide +kernel
theorem dX5_choosesRank_40 : decode cX5_choosesRank 40 = .ok (.getfield 39, 3) := by decide +kernel
theorem dX5_choosesRank_43 : decode cX5_choosesRank 43 = .ok (.iload_n 1, 1) := by decide +kernel
theorem dX5_choosesRank_44 : decode cX5_choosesRank 44 = .ok (.iload_n 2, 1) := by decide +kernel
theorem dX5_choosesRank_45 : decode cX5_choosesRank 45 = .ok (.iload_n 3, 1) := by decide +kernel
theorem dX5_choosesRank_46 : decode cX5_choosesRank 46 = .ok (.invokevirtual 139, 3) := by decide +kernel
theorem dX5_choosesRank_49 : decode cX5_choosesRank 49 = .ok (.ifCond .eq 7, 3) := by decide +kernel
theorem dX5_choosesRank_52 : decode cX5_choosesRank 52 = .ok (.iconst 1, 1) := by decide +kernel
theorem dX5_choosesRank_53 : decode cX5_choosesRank 53 = .ok (.goto 4, 3) := by decide +kernel
theorem dX5_choosesRank_56 : decode cX5_choosesRank 56 = .ok (.iconst 0, 1) := by decide +kernel
theorem dX5_choosesRank_57 : decode cX5_choosesRank 57 = .ok (.ireturn, 1) := by decide +kernel
theorem dX5_rankThreshold_0 : decode cX5_rankThreshold 0 = .ok (.aload_n 0, 1) := by decide +kernel
theorem dX5_rankThreshold_1 : decode cX5_rankThreshold 1 = .ok (.iload_n 1, 1) := by decide +kernel
theorem dX5_rankThreshold_2 : decode cX5_rankThreshold 2 = .ok (.invokevirtual 109, 3) := by decide +kernel
theorem dX5_rankThreshold_5 : decode cX5_rankThreshold 5 = .ok (.ifCond .ne 11, 3) := by decide +kernel
theorem dX5_rankThreshold_8 : decode cX5_rankThreshold 8 = .ok (.aload_n 0, 1) := by decide +kernel
theorem dX5_rankThreshold_9 : decode cX5_rankThreshold 9 = .ok (.iload_n 2, 1) := by decide +kernel
theorem dX5_rankThreshold_10 : decode cX5_rankThreshold 10 = .ok (.invokevirtual 136, 3) := by decide +kernel
theorem dX5_rankThreshold_13 : decode cX5_rankThreshold 13 = .ok (.ifCond .eq 5, 3) := by decide +kernel
theorem dX5_rankThreshold_16 : decode cX5_rankThreshold 16 = .ok (.iconst (-1), 1) := by decide +kernel
theorem dX5_rankThreshold_17 : decode cX5_rankThreshold 17 = .ok (.ireturn, 1) := by decide +kernel
theorem dX5_rankThreshold_18 : decode cX5_rankThreshold 18 = .ok (.aload_n 0, 1) := by decide +kernel
theorem dX5_rankThreshold_19 : decode cX5_rankThreshold 19 = .ok (.getfield 39, 3) := by decide +kernel
theorem dX5_rankThreshold_22 : decode cX5_rankThreshold 22 = .ok (.aload_n 0, 1) := by decide +kernel
theorem dX5_rankThreshold_23 : decode cX5_rankThreshold 23 = .ok (.getfield 9, 3) := by decide +kernel
theorem dX5_rankThreshold_26 : decode cX5_rankThreshold 26 = .ok (.invokevirtual 114, 3) := by decide +kernel
theorem dX5_rankThreshold_29 : decode cX5_rankThreshold 29 = .ok (.iconst 0, 1) := by decide +kernel
theorem dX5_rankThreshold_30 : decode cX5_rankThreshold 30 = .ok (.istore_n 3, 1) := by decide +kernel
theorem dX5_rankThreshold_31 : decode cX5_rankThreshold 31 = .ok (.iload_n 3, 1) := by decide +kernel
theorem dX5_rankThreshold_32 : decode cX5_rankThreshold 32 = .ok (.iload_n 1, 1) := by decide +kernel
theorem dX5_rankThreshold_33 : decode cX5_rankThreshold 33 = .ok (.if_icmp .ge 24, 3) := by decide +kernel
theorem dX5_rankThreshold_36 : decode cX5_rankThreshold 36 = .ok (.aload_n 0, 1) := by decide +kernel
theorem dX5_rankThreshold_37 : decode cX5_rankThreshold 37 = .ok (.getfield 39, 3) := by decide +kernel
theorem dX5_rankThreshold_40 : decode cX5_rankThreshold 40 = .ok (.iload_n 1, 1) := by decide +kernel
theorem dX5_rankThreshold_41 : decode cX5_rankThreshold 41 = .ok (.iload_n 2, 1) := by decide +kernel
theorem dX5_rankThreshold_42 : decode cX5_rankThreshold 42 = .ok (.iload_n 3, 1) := by decide +kernel
theorem dX5_rankThreshold_43 : decode cX5_rankThreshold 43 = .ok (.iconst 1, 1) := by decide +kernel
theorem dX5_rankThreshold_44 : decode cX5_rankThreshold 44 = .ok (.iadd, 1) := by decide +kernel
theorem dX5_rankThreshold_45 : decode cX5_rankThreshold 45 = .ok (.invokevirtual 139, 3) := by decide +kernel
theorem dX5_rankThreshold_48 : decode cX5_rankThreshold 48 = .ok (.ifCond .eq 9, 3) := by decide +kernel
theorem dX5_rankThreshold_51 : decode cX5_rankThreshold 51 = .ok (.iinc 3 1, 3) := by decide +kernel
theorem dX5_rankThreshold_54 : decode cX5_rankThreshold 54 = .ok (.goto (-23), 3) := by decide +kernel
theorem dX5_rankThreshold_57 : decode cX5_rankThreshold 57 = .ok (.iload_n 3, 1) := by decide +kernel
theorem dX5_rankThreshold_58 : decode cX5_rankThreshold 58 = .ok (.ireturn, 1) := by decide +kernel
theorem dX5_rankExpectation_0 : decode cX5_rankExpectation 0 = .ok (.iload_n 1, 1) := by decide +kernel
theorem dX5_rankExpectation_1 : decode cX5_rankExpectation 1 = .ok (.ifCond .lt 8, 3) := by decide +kernel
theorem dX5_rankExpectation_4 : decode cX5_rankExpectation 4 = .ok (.iload_n 1, 1) := by decide +kernel
theorem dX5_rankExpectation_5 : decode cX5_rankExpectation 5 = .ok (.iconst 2, 1) := by decide +kernel
theorem dX5_rankExpectation_6 : decode cX5_rankExpectation 6 = .ok (.if_icmp .le 7, 3) := by decide +kernel
theorem dX5_rankExpectation_9 : decode cX5_rankExpectation 9 = .ok (.ldc2_w 112, 3) := by decide +kernel
theorem dX5_rankExpectation_12 : decode cX5_rankExpectation 12 = .ok (.lreturn, 1) := by decide +kernel
theorem dX5_rankExpectation_13 : decode cX5_rankExpectation 13 = .ok (.aload_n 0, 1) := by decide +kernel
theorem dX5_rankExpectation_14 : decode cX5_rankExpectation 14 = .ok (.getfield 39, 3) := by decide +kernel
theorem dX5_rankExpectation_17 : decode cX5_rankExpectation 17 = .ok (.aload_n 0, 1) := by decide +kernel
theorem dX5_rankExpectation_18 : decode cX5_rankExpectation 18 = .ok (.getfield 9, 3) := by decide +kernel
theorem dX5_rankExpectation_21 : decode cX5_rankExpectation 21 = .ok (.invokevirtual 114, 3) := by decide +kernel
theorem dX5_rankExpectation_24 : decode cX5_rankExpectation 24 = .ok (.aload_n 0, 1) := by decide +kernel
theorem dX5_rankExpectation_25 : decode cX5_rankExpectation 25 = .ok (.aload_n 0, 1) := by decide +kernel
theorem dX5_rankExpectation_26 : decode cX5_rankExpectation 26 = .ok (.getfield 39, 3) := by decide +kernel
theorem dX5_rankExpectation_29 : decode cX5_rankExpectation 29 = .ok (.iload_n 1, 1) := by decide +kernel
theorem dX5_rankExpectation_30 : decode cX5_rankExpectation 30 = .ok (.aload_n 0, 1) := by decide +kernel
theorem dX5_rankExpectation_31 : decode cX5_rankExpectation 31 = .ok (.invokevirtual 143, 3) := by decide +kernel
theorem dX5_rankExpectation_34 : decode cX5_rankExpectation 34 = .ok (.invokevirtual 146, 3) := by decide +kernel
theorem dX5_rankExpectation_37 : decode cX5_rankExpectation 37 = .ok (.ldc2_w 121, 3) := by decide +kernel
theorem dX5_rankExpectation_40 : decode cX5_rankExpectation 40 = .ok (.invokevirtual 123, 3) := by decide +kernel
theorem dX5_rankExpectation_43 : decode cX5_rankExpectation 43 = .ok (.lreturn, 1) := by decide +kernel
theorem dX5_skipping_0 : decode cX5_skipping 0 = .ok (.iload_n 1, 1) := by decide +kernel
theorem dX5_skipping_1 : decode cX5_skipping 1 = .ok (.ifCond .lt 11, 3) := by decide +kernel
theorem dX5_skipping_4 : decode cX5_skipping 4 = .ok (.iload_n 1, 1) := by decide +kernel
theorem dX5_skipping_5 : decode cX5_skipping 5 = .ok (.aload_n 0, 1) := by decide +kernel
theorem dX5_skipping_6 : decode cX5_skipping 6 = .ok (.invokevirtual 149, 3) := by decide +kernel
theorem dX5_skipping_9 : decode cX5_skipping 9 = .ok (.if_icmp .le 7, 3) := by decide +kernel
theorem dX5_skipping_12 : decode cX5_skipping 12 = .ok (.ldc2_w 112, 3) := by decide +kernel
theorem dX5_skipping_15 : decode cX5_skipping 15 = .ok (.lreturn, 1) := by decide +kernel
theorem dX5_skipping_16 : decode cX5_skipping 16 = .ok (.aload_n 0, 1) := by decide +kernel
theorem dX5_skipping_17 : decode cX5_skipping 17 = .ok (.getfield 39, 3) := by decide +kernel
theorem dX5_skipping_20 : decode cX5_skipping 20 = .ok (.aload_n 0, 1) := by decide +kernel
theorem dX5_skipping_21 : decode cX5_skipping 21 = .ok (.getfield 9, 3) := by decide +kernel
theorem dX5_skipping_24 : decode cX5_skipping 24 = .ok (.invokevirtual 114, 3) := by decide +kernel
theorem dX5_skipping_27 : decode cX5_skipping 27 = .ok (.aload_n 0, 1) := by decide +kernel
theorem dX5_skipping_28 : decode cX5_skipping 28 = .ok (.aload_n 0, 1) := by decide +kernel
theorem dX5_skipping_29 : decode cX5_skipping 29 = .ok (.getfield 39, 3) := by decide +kernel
theorem dX5_skipping_32 : decode cX5_skipping 32 = .ok (.iload_n 1, 1) := by decide +kernel
theorem dX5_skipping_33 : decode cX5_skipping 33 = .ok (.aload_n 0, 1) := by decide +kernel
theorem dX5_skipping_34 : decode cX5_skipping 34 = .ok (.invokevirtual 143, 3) := by decide +kernel
theorem dX5_skipping_37 : decode cX5_skipping 37 = .ok (.invokevirtual 152, 3) := by decide +kernel
theorem dX5_skipping_40 : decode cX5_skipping 40 = .ok (.ldc2_w 121, 3) := by decide +kernel
theorem dX5_skipping_43 : decode cX5_skipping 43 = .ok (.invokevirtual 123, 3) := by decide +kernel
theorem dX5_skipping_46 : decode cX5_skipping 46 = .ok (.lreturn, 1) := by decide +kernel
theorem dX5_bestSkip_0 : decode cX5_bestSkip 0 = .ok (.aload_n 0, 1) := by decide +kernel
theorem dX5_bestSkip_1 : decode cX5_bestSkip 1 = .ok (.getfield 39, 3) := by decide +kernel
theorem dX5_bestSkip_4 : decode cX5_bestSkip 4 = .ok (.aload_n 0, 1) := by decide +kernel
theorem dX5_bestSkip_5 : decode cX5_bestSkip 5 = .ok (.getfield 9, 3) := by decide +kernel
theorem dX5_bestSkip_8 : decode cX5_bestSkip 8 = .ok (.invokevirtual 114, 3) := by decide +kernel
theorem dX5_bestSkip_11 : decode cX5_bestSkip 11 = .ok (.iconst 0, 1) := by decide +kernel
theorem dX5_bestSkip_12 : decode cX5_bestSkip 12 = .ok (.istore_n 1, 1) := by decide +kernel
theorem dX5_bestSkip_13 : decode cX5_bestSkip 13 = .ok (.aload_n 0, 1) := by decide +kernel
theorem dX5_bestSkip_14 : decode cX5_bestSkip 14 = .ok (.getfield 39, 3) := by decide +kernel
theorem dX5_bestSkip_17 : decode cX5_bestSkip 17 = .ok (.iconst 0, 1) := by decide +kernel
theorem dX5_bestSkip_18 : decode cX5_bestSkip 18 = .ok (.aload_n 0, 1) := by decide +kernel
theorem dX5_bestSkip_19 : decode cX5_bestSkip 19 = .ok (.invokevirtual 143, 3) := by decide +kernel
theorem dX5_bestSkip_22 : decode cX5_bestSkip 22 = .ok (.invokevirtual 152, 3) := by decide +kernel
theorem dX5_bestSkip_25 : decode cX5_bestSkip 25 = .ok (.lstore_n 2, 1) := by decide +kernel
theorem dX5_bestSkip_26 : decode cX5_bestSkip 26 = .ok (.iconst 1, 1) := by decide +kernel
theorem dX5_bestSkip_27 : decode cX5_bestSkip 27 = .ok (.istore 4, 2) := by decide +kernel
theorem dX5_bestSkip_29 : decode cX5_bestSkip 29 = .ok (.iload 4, 2) := by decide +kernel
theorem dX5_bestSkip_31 : decode cX5_bestSkip 31 = .ok (.aload_n 0, 1) := by decide +kernel
theorem dX5_bestSkip_32 : decode cX5_bestSkip 32 = .ok (.invokevirtual 149, 3) := by decide +kernel
theorem dX5_bestSkip_35 : decode cX5_bestSkip 35 = .ok (.if_icmp .gt 37, 3) := by decide +kernel
theorem dX5_bestSkip_38 : decode cX5_bestSkip 38 = .ok (.aload_n 0, 1) := by decide +kernel
theorem dX5_bestSkip_39 : decode cX5_bestSkip 39 = .ok (.getfield 39, 3) := by decide +kernel
theorem dX5_bestSkip_42 : decode cX5_bestSkip 42 = .ok (.iload 4, 2) := by decide +kernel
theorem dX5_bestSkip_44 : decode cX5_bestSkip 44 = .ok (.aload_n 0, 1) := by decide +kernel
theorem dX5_bestSkip_45 : decode cX5_bestSkip 45 = .ok (.invokevirtual 143, 3) := by decide +kernel
theorem dX5_bestSkip_48 : decode cX5_bestSkip 48 = .ok (.invokevirtual 152, 3) := by decide +kernel
theorem dX5_bestSkip_51 : decode cX5_bestSkip 51 = .ok (.lstore 5, 2) := by decide +kernel
theorem dX5_bestSkip_53 : decode cX5_bestSkip 53 = .ok (.lload 5, 2) := by decide +kernel
theorem dX5_bestSkip_55 : decode cX5_bestSkip 55 = .ok (.lload_n 2, 1) := by decide +kernel
theorem dX5_bestSkip_56 : decode cX5_bestSkip 56 = .ok (.lcmp, 1) := by decide +kernel
theorem dX5_bestSkip_57 : decode cX5_bestSkip 57 = .ok (.ifCond .le 9, 3) := by decide +kernel
theorem dX5_bestSkip_60 : decode cX5_bestSkip 60 = .ok (.lload 5, 2) := by decide +kernel
theorem dX5_bestSkip_62 : decode cX5_bestSkip 62 = .ok (.lstore_n 2, 1) := by decide +kernel
theorem dX5_bestSkip_63 : decode cX5_bestSkip 63 = .ok (.iload 4, 2) := by decide +kernel
theorem dX5_bestSkip_65 : decode cX5_bestSkip 65 = .ok (.istore_n 1, 1) := by decide +kernel
theorem dX5_bestSkip_66 : decode cX5_bestSkip 66 = .ok (.iinc 4 1, 3) := by decide +kernel
theorem dX5_bestSkip_69 : decode cX5_bestSkip 69 = .ok (.goto (-40), 3) := by decide +kernel
theorem dX5_bestSkip_72 : decode cX5_bestSkip 72 = .ok (.iload_n 1, 1) := by decide +kernel
theorem dX5_bestSkip_73 : decode cX5_bestSkip 73 = .ok (.ireturn, 1) := by decide +kernel
theorem dX5_situation_0 : decode cX5_situation 0 = .ok (.aload_n 0, 1) := by decide +kernel
theorem dX5_situation_1 : decode cX5_situation 1 = .ok (.iload_n 1, 1) := by decide +kernel
theorem dX5_situation_2 : decode cX5_situation 2 = .ok (.iload_n 2, 1) := by decide +kernel
theorem dX5_situation_3 : decode cX5_situation 3 = .ok (.iload_n 3, 1) := by decide +kernel
theorem dX5_situation_4 : decode cX5_situation 4 = .ok (.iload 4, 2) := by decide +kernel
theorem dX5_situation_6 : decode cX5_situation 6 = .ok (.invokevirtual 155, 3) := by decide +kernel
theorem dX5_situation_9 : decode cX5_situation 9 = .ok (.ifCond .eq 7, 3) := by decide +kernel
theorem dX5_situation_12 : decode cX5_situation 12 = .ok (.ldc2_w 112, 3) := by decide +kernel
theorem dX5_situation_15 : decode cX5_situation 15 = .ok (.lreturn, 1) := by decide +kernel
theorem dX5_situation_16 : decode cX5_situation 16 = .ok (.aload_n 0, 1) := by decide +kernel
theorem dX5_situation_17 : decode cX5_situation 17 = .ok (.getfield 48, 3) := by decide +kernel
theorem dX5_situation_20 : decode cX5_situation 20 = .ok (.aload_n 0, 1) := by decide +kernel
theorem dX5_situation_21 : decode cX5_situation 21 = .ok (.getfield 9, 3) := by decide +kernel
theorem dX5_situation_24 : decode cX5_situation 24 = .ok (.invokevirtual 159, 3) := by decide +kernel
theorem dX5_situation_27 : decode cX5_situation 27 = .ok (.aload_n 0, 1) := by decide +kernel
theorem dX5_situation_28 : decode cX5_situation 28 = .ok (.aload_n 0, 1) := by decide +kernel
theorem dX5_situation_29 : decode cX5_situation 29 = .ok (.getfield 48, 3) := by decide +kernel
theorem dX5_situation_32 : decode cX5_situation 32 = .ok (.iload_n 1, 1) := by decide +kernel
theorem dX5_situation_33 : decode cX5_situation 33 = .ok (.iload_n 2, 1) := by decide +kernel
theorem dX5_situation_34 : decode cX5_situation 34 = .ok (.iload_n 3, 1) := by decide +kernel
theorem dX5_situation_35 : decode cX5_situation 35 = .ok (.iload 4, 2) := by decide +kernel
theorem dX5_situation_37 : decode cX5_situation 37 = .ok (.invokevirtual 160, 3) := by decide +kernel
theorem dX5_situation_40 : decode cX5_situation 40 = .ok (.ldc2_w 163, 3) := by decide +kernel
theorem dX5_situation_43 : decode cX5_situation 43 = .ok (.invokevirtual 123, 3) := by decide +kernel
theorem dX5_situation_46 : decode cX5_situation 46 = .ok (.lreturn, 1) := by decide +kernel
theorem dX5_recalls_0 : decode cX5_recalls 0 = .ok (.aload_n 0, 1) := by decide +kernel
theorem dX5_recalls_1 : decode cX5_recalls 1 = .ok (.iload_n 1, 1) := by decide +kernel
theorem dX5_recalls_2 : decode cX5_recalls 2 = .ok (.iload_n 2, 1) := by decide +kernel
theorem dX5_recalls_3 : decode cX5_recalls 3 = .ok (.iload_n 3, 1) := by decide +kernel
theorem dX5_recalls_4 : decode cX5_recalls 4 = .ok (.iload 4, 2) := by decide +kernel
theorem dX5_recalls_6 : decode cX5_recalls 6 = .ok (.invokevirtual 155, 3) := by decide +kernel
theorem dX5_recalls_9 : decode cX5_recalls 9 = .ok (.ifCond .eq 5, 3) := by decide +kernel
theorem dX5_recalls_12 : decode cX5_recalls 12 = .ok (.iconst (-1), 1) := by decide +kernel
theorem dX5_recalls_13 : decode cX5_recalls 13 = .ok (.ireturn, 1) := by decide +kernel
theorem dX5_recalls_14 : decode cX5_recalls 14 = .ok (.aload_n 0, 1) := by decide +kernel
theorem dX5_recalls_15 : decode cX5_recalls 15 = .ok (.getfield 48, 3) := by decide +kernel
theorem dX5_recalls_18 : decode cX5_recalls 18 = .ok (.aload_n 0, 1) := by decide +kernel
theorem dX5_recalls_19 : decode cX5_recalls 19 = .ok (.getfield 9, 3) := by decide +kernel
theorem dX5_recalls_22 : decode cX5_recalls 22 = .ok (.invokevirtual 159, 3) := by decide +kernel
theorem dX5_recalls_25 : decode cX5_recalls 25 = .ok (.aload_n 0, 1) := by decide +kernel
theorem dX5_recalls_26 : decode cX5_recalls 26 = .ok (.getfield 48, 3) := by decide +kernel
theorem dX5_recalls_29 : decode cX5_recalls 29 = .ok (.iload_n 1, 1) := by decide +kernel
theorem dX5_recalls_30 : decode cX5_recalls 30 = .ok (.iload_n 2, 1) := by decide +kernel
theorem dX5_recalls_31 : decode cX5_recalls 31 = .ok (.iload_n 3, 1) := by decide +kernel
theorem dX5_recalls_32 : decode cX5_recalls 32 = .ok (.iload 4, 2) := by decide +kernel
theorem dX5_recalls_34 : decode cX5_recalls 34 = .ok (.invokevirtual 165, 3) := by decide +kernel
theorem dX5_recalls_37 : decode cX5_recalls 37 = .ok (.ireturn, 1) := by decide +kernel
theorem dX5_observes_0 : decode cX5_observes 0 = .ok (.aload_n 0, 1) := by decide +kernel
theorem dX5_observes_1 : decode cX5_observes 1 = .ok (.iload_n 1, 1) := by decide +kernel
theorem dX5_observes_2 : decode cX5_observes 2 = .ok (.iload_n 2, 1) := by decide +kernel
theorem dX5_observes_3 : decode cX5_observes 3 = .ok (.iload_n 3, 1) := by decide +kernel
theorem dX5_observes_4 : decode cX5_observes 4 = .ok (.iload 4, 2) := by decide +kernel
theorem dX5_observes_6 : decode cX5_observes 6 = .ok (.invokevirtual 155, 3) := by decide +kernel
theorem dX5_observes_9 : decode cX5_observes 9 = .ok (.ifCond .eq 5, 3) := by decide +kernel
theorem dX5_observes_12 : decode cX5_observes 12 = .ok (.iconst (-1), 1) := by decide +kernel
theorem dX5_observes_13 : decode cX5_observes 13 = .ok (.ireturn, 1) := by decide +kernel
theorem dX5_observes_14 : decode cX5_observes 14 = .ok (.aload_n 0, 1) := by decide +kernel
theorem dX5_observes_15 : decode cX5_observes 15 = .ok (.getfield 48, 3) := by decide +kernel
theorem dX5_observes_18 : decode cX5_observes 18 = .ok (.aload_n 0, 1) := by decide +kernel
theorem dX5_observes_19 : decode cX5_observes 19 = .ok (.getfield 9, 3) := by decide +kernel
theorem dX5_observes_22 : decode cX5_observes 22 = .ok (.invokevirtual 159, 3) := by decide +kernel
theorem dX5_observes_25 : decode cX5_observes 25 = .ok (.aload_n 0, 1) := by decide +kernel
theorem dX5_observes_26 : decode cX5_observes 26 = .ok (.getfield 48, 3) := by decide +kernel
theorem dX5_observes_29 : decode cX5_observes 29 = .ok (.iload_n 1, 1) := by decide +kernel
theorem dX5_observes_30 : decode cX5_observes 30 = .ok (.iload_n 2, 1) := by decide +kernel
theorem dX5_observes_31 : decode cX5_observes 31 = .ok (.iload_n 3, 1) := by decide +kernel
theorem dX5_observes_32 : decode cX5_observes 32 = .ok (.invokevirtual 169, 3) := by decide +kernel
theorem dX5_observes_35 : decode cX5_observes 35 = .ok (.lconst 0, 1) := by decide +kernel
theorem dX5_observes_36 : decode cX5_observes 36 = .ok (.lcmp, 1) := by decide +kernel
theorem dX5_observes_37 : decode cX5_observes 37 = .ok (.ifCond .le 7, 3) := by decide +kernel
theorem dX5_observes_40 : decode cX5_observes 40 = .ok (.iconst 1, 1) := by decide +kernel
theorem dX5_observes_41 : decode cX5_observes 41 = .ok (.goto 4, 3) := by decide +kernel
theorem dX5_observes_44 : decode cX5_observes 44 = .ok (.iconst 0, 1) := by decide +kernel
theorem dX5_observes_45 : decode cX5_observes 45 = .ok (.ireturn, 1) := by decide +kernel
theorem dX5_choosesLevel_0 : decode cX5_choosesLevel 0 = .ok (.aload_n 0, 1) := by decide +kernel
theorem dX5_choosesLevel_1 : decode cX5_choosesLevel 1 = .ok (.iload_n 1, 1) := by decide +kernel
theorem dX5_choosesLevel_2 : decode cX5_choosesLevel 2 = .ok (.invokevirtual 109, 3) := by decide +kernel
theorem dX5_choosesLevel_5 : decode cX5_choosesLevel 5 = .ok (.ifCond .ne 26, 3) := by decide +kernel
theorem dX5_choosesLevel_8 : decode cX5_choosesLevel 8 = .ok (.aload_n 0, 1) := by decide +kernel
theorem dX5_choosesLevel_9 : decode cX5_choosesLevel 9 = .ok (.iload_n 2, 1) := by decide +kernel
theorem dX5_choosesLevel_10 : decode cX5_choosesLevel 10 = .ok (.invokevirtual 136, 3) := by decide +kernel
theorem dX5_choosesLevel_13 : decode cX5_choosesLevel 13 = .ok (.ifCond .ne 18, 3) := by decide +kernel
theorem dX5_choosesLevel_16 : decode cX5_choosesLevel 16 = .ok (.iload_n 3, 1) := by decide +kernel
theorem dX5_choosesLevel_17 : decode cX5_choosesLevel 17 = .ok (.invokestatic 173, 3) := by decide +kernel
theorem dX5_choosesLevel_20 : decode cX5_choosesLevel 20 = .ok (.ifCond .ne 11, 3) := by decide +kernel
theorem dX5_choosesLevel_23 : decode cX5_choosesLevel 23 = .ok (.iload 4, 2) := by decide +kernel
theorem dX5_choosesLevel_25 : decode cX5_choosesLevel 25 = .ok (.invokestatic 105, 3) := by decide +kernel
theorem dX5_choosesLevel_28 : decode cX5_choosesLevel 28 = .ok (.ifCond .eq 5, 3) := by decide +kernel
theorem dX5_choosesLevel_31 : decode cX5_choosesLevel 31 = .ok (.iconst (-1), 1) := by decide +kernel
theorem dX5_choosesLevel_32 : decode cX5_choosesLevel 32 = .ok (.ireturn, 1) := by decide +kernel
theorem dX5_choosesLevel_33 : decode cX5_choosesLevel 33 = .ok (.aload_n 0, 1) := by decide +kernel
theorem dX5_choosesLevel_34 : decode cX5_choosesLevel 34 = .ok (.getfield 48, 3) := by decide +kernel
theorem dX5_choosesLevel_37 : decode cX5_choosesLevel 37 = .ok (.aload_n 0, 1) := by decide +kernel
theorem dX5_choosesLevel_38 : decode cX5_choosesLevel 38 = .ok (.getfield 9, 3) := by decide +kernel
theorem dX5_choosesLevel_41 : decode cX5_choosesLevel 41 = .ok (.invokevirtual 159, 3) := by decide +kernel
theorem dX5_choosesLevel_44 : decode cX5_choosesLevel 44 = .ok (.aload_n 0, 1) := by decide +kernel
theorem dX5_choosesLevel_45 : decode cX5_choosesLevel 45 = .ok (.getfield 48, 3) := by decide +kernel
theorem dX5_choosesLevel_48 : decode cX5_choosesLevel 48 = .ok (.iload_n 1, 1) := by decide +kernel
theorem dX5_choosesLevel_49 : decode cX5_choosesLevel 49 = .ok (.iload_n 2, 1) := by decide +kernel
theorem dX5_choosesLevel_50 : decode cX5_choosesLevel 50 = .ok (.iload_n 3, 1) := by decide +kernel
theorem dX5_choosesLevel_51 : decode cX5_choosesLevel 51 = .ok (.iload 4, 2) := by decide +kernel
theorem dX5_choosesLevel_53 : decode cX5_choosesLevel 53 = .ok (.invokevirtual 176, 3) := by decide +kernel
theorem dX5_choosesLevel_56 : decode cX5_choosesLevel 56 = .ok (.ifCond .eq 7, 3) := by decide +kernel
theorem dX5_choosesLevel_59 : decode cX5_choosesLevel 59 = .ok (.iconst 1, 1) := by decide +kernel
theorem dX5_choosesLevel_60 : decode cX5_choosesLevel 60 = .ok (.goto 4, 3) := by decide +kernel
theorem dX5_choosesLevel_63 : decode cX5_choosesLevel 63 = .ok (.iconst 0, 1) := by decide +kernel
theorem dX5_choosesLevel_64 : decode cX5_choosesLevel 64 = .ok (.ireturn, 1) := by decide +kernel
theorem dX5_valueThreshold_0 : decode cX5_valueThreshold 0 = .ok (.aload_n 0, 1) := by decide +kernel
theorem dX5_valueThreshold_1 : decode cX5_valueThreshold 1 = .ok (.iload_n 1, 1) := by decide +kernel
theorem dX5_valueThreshold_2 : decode cX5_valueThreshold 2 = .ok (.invokevirtual 109, 3) := by decide +kernel
theorem dX5_valueThreshold_5 : decode cX5_valueThreshold 5 = .ok (.ifCond .ne 18, 3) := by decide +kernel
theorem dX5_valueThreshold_8 : decode cX5_valueThreshold 8 = .ok (.aload_n 0, 1) := by decide +kernel
theorem dX5_valueThreshold_9 : decode cX5_valueThreshold 9 = .ok (.iload_n 2, 1) := by decide +kernel
theorem dX5_valueThreshold_10 : decode cX5_valueThreshold 10 = .ok (.invokevirtual 136, 3) := by decide +kernel
theorem dX5_valueThreshold_13 : decode cX5_valueThreshold 13 = .ok (.ifCond .ne 10, 3) := by decide +kernel
theorem dX5_valueThreshold_16 : decode cX5_valueThreshold 16 = .ok (.iload_n 3, 1) := by decide +kernel
theorem dX5_valueThreshold_17 : decode cX5_valueThreshold 17 = .ok (.invokestatic 173, 3) := by decide +kernel
theorem dX5_valueThreshold_20 : decode cX5_valueThreshold 20 = .ok (.ifCond .eq 5, 3) := by decide +kernel
theorem dX5_valueThreshold_23 : decode cX5_valueThreshold 23 = .ok (.iconst (-1), 1) := by decide +kernel
theorem dX5_valueThreshold_24 : decode cX5_valueThreshold 24 = .ok (.ireturn, 1) := by decide +kernel
theorem dX5_valueThreshold_25 : decode cX5_valueThreshold 25 = .ok (.aload_n 0, 1) := by decide +kernel
theorem dX5_valueThreshold_26 : decode cX5_valueThreshold 26 = .ok (.getfield 48, 3) := by decide +kernel
theorem dX5_valueThreshold_29 : decode cX5_valueThreshold 29 = .ok (.aload_n 0, 1) := by decide +kernel
theorem dX5_valueThreshold_30 : decode cX5_valueThreshold 30 = .ok (.getfield 9, 3) := by decide +kernel
theorem dX5_valueThreshold_33 : decode cX5_valueThreshold 33 = .ok (.invokevirtual 159, 3) := by decide +kernel
theorem dX5_valueThreshold_36 : decode cX5_valueThreshold 36 = .ok (.bipush (-9), 2) := by decide +kernel
theorem dX5_valueThreshold_38 : decode cX5_valueThreshold 38 = .ok (.istore 4, 2) := by decide +kernel
theorem dX5_valueThreshold_40 : decode cX5_valueThreshold 40 = .ok (.iconst 0, 1) := by decide +kernel
theorem dX5_valueThreshold_41 : decode cX5_valueThreshold 41 = .ok (.istore 5, 2) := by decide +kernel
theorem dX5_valueThreshold_43 : decode cX5_valueThreshold 43 = .ok (.iload 5, 2) := by decide +kernel
theorem dX5_valueThreshold_45 : decode cX5_valueThreshold 45 = .ok (.iconst 5, 1) := by decide +kernel
theorem dX5_valueThreshold_46 : decode cX5_valueThreshold 46 = .ok (.if_icmp .ge 54, 3) := by decide +kernel
theorem dX5_valueThreshold_49 : decode cX5_valueThreshold 49 = .ok (.aload_n 0, 1) := by decide +kernel
theorem dX5_valueThreshold_50 : decode cX5_valueThreshold 50 = .ok (.getfield 9, 3) := by decide +kernel
theorem dX5_valueThreshold_53 : decode cX5_valueThreshold 53 = .ok (.bipush 10, 2) := by decide +kernel
theorem dX5_valueThreshold_55 : decode cX5_valueThreshold 55 = .ok (.iload 5, 2) := by decide +kernel
theorem dX5_valueThreshold_57 : decode cX5_valueThreshold 57 = .ok (.iadd, 1) := by decide +kernel
theorem dX5_valueThreshold_58 : decode cX5_valueThreshold 58 = .ok (.iaload, 1) := by decide +kernel
theorem dX5_valueThreshold_59 : decode cX5_valueThreshold 59 = .ok (.istore 6, 2) := by decide +kernel
theorem dX5_valueThreshold_61 : decode cX5_valueThreshold 61 = .ok (.aload_n 0, 1) := by decide +kernel
theorem dX5_valueThreshold_62 : decode cX5_valueThreshold 62 = .ok (.getfield 48, 3) := by decide +kernel
theorem dX5_valueThreshold_65 : decode cX5_valueThreshold 65 = .ok (.iload_n 1, 1) := by decide +kernel
theorem dX5_valueThreshold_66 : decode cX5_valueThreshold 66 = .ok (.iload_n 2, 1) := by decide +kernel
theorem dX5_valueThreshold_67 : decode cX5_valueThreshold 67 = .ok (.iload_n 3, 1) := by decide +kernel
theorem dX5_valueThreshold_68 : decode cX5_valueThreshold 68 = .ok (.iload 5, 2) := by decide +kernel
theorem dX5_valueThreshold_70 : decode cX5_valueThreshold 70 = .ok (.invokevirtual 176, 3) := by decide +kernel
theorem dX5_valueThreshold_73 : decode cX5_valueThreshold 73 = .ok (.ifCond .eq 21, 3) := by decide +kernel
theorem dX5_valueThreshold_76 : decode cX5_valueThreshold 76 = .ok (.iload 4, 2) := by decide +kernel
theorem dX5_valueThreshold_78 : decode cX5_valueThreshold 78 = .ok (.bipush (-9), 2) := by decide +kernel
theorem dX5_valueThreshold_80 : decode cX5_valueThreshold 80 = .ok (.if_icmp .eq 10, 3) := by decide +kernel
theorem dX5_valueThreshold_83 : decode cX5_valueThreshold 83 = .ok (.iload 6, 2) := by decide +kernel
theorem dX5_valueThreshold_85 : decode cX5_valueThreshold 85 = .ok (.iload 4, 2) := by decide +kernel
theorem dX5_valueThreshold_87 : decode cX5_valueThreshold 87 = .ok (.if_icmp .ge 7, 3) := by decide +kernel
theorem dX5_valueThreshold_90 : decode cX5_valueThreshold 90 = .ok (.iload 6, 2) := by decide +kernel
theorem dX5_valueThreshold_92 : decode cX5_valueThreshold 92 = .ok (.istore 4, 2) := by decide +kernel
theorem dX5_valueThreshold_94 : decode cX5_valueThreshold 94 = .ok (.iinc 5 1, 3) := by decide +kernel
theorem dX5_valueThreshold_97 : decode cX5_valueThreshold 97 = .ok (.goto (-54), 3) := by decide +kernel
theorem dX5_valueThreshold_100 : decode cX5_valueThreshold 100 = .ok (.iload 4, 2) := by decide +kernel
theorem dX5_valueThreshold_102 : decode cX5_valueThreshold 102 = .ok (.ireturn, 1) := by decide +kernel
theorem dX5_fixed_0 : decode cX5_fixed 0 = .ok (.iload_n 1, 1) := by decide +kernel
theorem dX5_fixed_1 : decode cX5_fixed 1 = .ok (.ifCond .lt 9, 3) := by decide +kernel
theorem dX5_fixed_4 : decode cX5_fixed 4 = .ok (.iload_n 1, 1) := by decide +kernel
theorem dX5_fixed_5 : decode cX5_fixed 5 = .ok (.bipush 99, 2) := by decide +kernel
theorem dX5_fixed_7 : decode cX5_fixed 7 = .ok (.if_icmp .le 7, 3) := by decide +kernel
theorem dX5_fixed_10 : decode cX5_fixed 10 = .ok (.ldc2_w 112, 3) := by decide +kernel
theorem dX5_fixed_13 : decode cX5_fixed 13 = .ok (.lreturn, 1) := by decide +kernel
theorem dX5_fixed_14 : decode cX5_fixed 14 = .ok (.aload_n 0, 1) := by decide +kernel
theorem dX5_fixed_15 : decode cX5_fixed 15 = .ok (.getfield 48, 3) := by decide +kernel
theorem dX5_fixed_18 : decode cX5_fixed 18 = .ok (.aload_n 0, 1) := by decide +kernel
theorem dX5_fixed_19 : decode cX5_fixed 19 = .ok (.getfield 9, 3) := by decide +kernel
theorem dX5_fixed_22 : decode cX5_fixed 22 = .ok (.invokevirtual 159, 3) := by decide +kernel
theorem dX5_fixed_25 : decode cX5_fixed 25 = .ok (.aload_n 0, 1) := by decide +kernel
theorem dX5_fixed_26 : decode cX5_fixed 26 = .ok (.aload_n 0, 1) := by decide +kernel
theorem dX5_fixed_27 : decode cX5_fixed 27 = .ok (.getfield 48, 3) := by decide +kernel
theorem dX5_fixed_30 : decode cX5_fixed 30 = .ok (.iload_n 1, 1) := by decide +kernel
theorem dX5_fixed_31 : decode cX5_fixed 31 = .ok (.aload_n 0, 1) := by decide +kernel
theorem dX5_fixed_32 : decode cX5_fixed 32 = .ok (.invokevirtual 143, 3) := by decide +kernel
theorem dX5_fixed_35 : decode cX5_fixed 35 = .ok (.invokevirtual 178, 3) := by decide +kernel
theorem dX5_fixed_38 : decode cX5_fixed 38 = .ok (.ldc2_w 163, 3) := by decide +kernel
theorem dX5_fixed_41 : decode cX5_fixed 41 = .ok (.invokevirtual 123, 3) := by decide +kernel
theorem dX5_fixed_44 : decode cX5_fixed 44 = .ok (.lreturn, 1) := by decide +kernel
theorem dX5_bestFixed_0 : decode cX5_bestFixed 0 = .ok (.aload_n 0, 1) := by decide +kernel
theorem dX5_bestFixed_1 : decode cX5_bestFixed 1 = .ok (.getfield 48, 3) := by decide +kernel
theorem dX5_bestFixed_4 : decode cX5_bestFixed 4 = .ok (.aload_n 0, 1) := by decide +kernel
theorem dX5_bestFixed_5 : decode cX5_bestFixed 5 = .ok (.getfield 9, 3) := by decide +kernel
theorem dX5_bestFixed_8 : decode cX5_bestFixed 8 = .ok (.invokevirtual 159, 3) := by decide +kernel
theorem dX5_bestFixed_11 : decode cX5_bestFixed 11 = .ok (.iconst 0, 1) := by decide +kernel
theorem dX5_bestFixed_12 : decode cX5_bestFixed 12 = .ok (.istore_n 1, 1) := by decide +kernel
theorem dX5_bestFixed_13 : decode cX5_bestFixed 13 = .ok (.aload_n 0, 1) := by decide +kernel
theorem dX5_bestFixed_14 : decode cX5_bestFixed 14 = .ok (.getfield 48, 3) := by decide +kernel
theorem dX5_bestFixed_17 : decode cX5_bestFixed 17 = .ok (.iconst 0, 1) := by decide +kernel
theorem dX5_bestFixed_18 : decode cX5_bestFixed 18 = .ok (.aload_n 0, 1) := by decide +kernel
theorem dX5_bestFixed_19 : decode cX5_bestFixed 19 = .ok (.invokevirtual 143, 3) := by decide +kernel
theorem dX5_bestFixed_22 : decode cX5_bestFixed 22 = .ok (.invokevirtual 178, 3) := by decide +kernel
theorem dX5_bestFixed_25 : decode cX5_bestFixed 25 = .ok (.lstore_n 2, 1) := by decide +kernel
theorem dX5_bestFixed_26 : decode cX5_bestFixed 26 = .ok (.iconst 1, 1) := by decide +kernel
theorem dX5_bestFixed_27 : decode cX5_bestFixed 27 = .ok (.istore 4, 2) := by decide +kernel
theorem dX5_bestFixed_29 : decode cX5_bestFixed 29 = .ok (.iload 4, 2) := by decide +kernel
theorem dX5_bestFixed_31 : decode cX5_bestFixed 31 = .ok (.bipush 99, 2) := by decide +kernel
theorem dX5_bestFixed_33 : decode cX5_bestFixed 33 = .ok (.if_icmp .gt 48, 3) := by decide +kernel
theorem dX5_bestFixed_36 : decode cX5_bestFixed 36 = .ok (.aload_n 0, 1) := by decide +kernel
theorem dX5_bestFixed_37 : decode cX5_bestFixed 37 = .ok (.iload 4, 2) := by decide +kernel
theorem dX5_bestFixed_39 : decode cX5_bestFixed 39 = .ok (.iconst 1, 1) := by decide +kernel
theorem dX5_bestFixed_40 : decode cX5_bestFixed 40 = .ok (.isub, 1) := by decide +kernel
theorem dX5_bestFixed_41 : decode cX5_bestFixed 41 = .ok (.invokevirtual 181, 3) := by decide +kernel
theorem dX5_bestFixed_44 : decode cX5_bestFixed 44 = .ok (.ifCond .eq 31, 3) := by decide +kernel
theorem dX5_bestFixed_47 : decode cX5_bestFixed 47 = .ok (.aload_n 0, 1) := by decide +kernel
theorem dX5_bestFixed_48 : decode cX5_bestFixed 48 = .ok (.getfield 48, 3) := by decide +kernel
theorem dX5_bestFixed_51 : decode cX5_bestFixed 51 = .ok (.iload 4, 2) := by decide +kernel
theorem dX5_bestFixed_53 : decode cX5_bestFixed 53 = .ok (.aload_n 0, 1) := by decide +kernel
theorem dX5_bestFixed_54 : decode cX5_bestFixed 54 = .ok (.invokevirtual 143, 3) := by decide +kernel
theorem dX5_bestFixed_57 : decode cX5_bestFixed 57 = .ok (.invokevirtual 178, 3) := by decide +kernel
theorem dX5_bestFixed_60 : decode cX5_bestFixed 60 = .ok (.lstore 5, 2) := by decide +kernel
theorem dX5_bestFixed_62 : decode cX5_bestFixed 62 = .ok (.lload 5, 2) := by decide +kernel
theorem dX5_bestFixed_64 : decode cX5_bestFixed 64 = .ok (.lload_n 2, 1) := by decide +kernel
theorem dX5_bestFixed_65 : decode cX5_bestFixed 65 = .ok (.lcmp, 1) := by decide +kernel
theorem dX5_bestFixed_66 : decode cX5_bestFixed 66 = .ok (.ifCond .le 9, 3) := by decide +kernel
theorem dX5_bestFixed_69 : decode cX5_bestFixed 69 = .ok (.lload 5, 2) := by decide +kernel
theorem dX5_bestFixed_71 : decode cX5_bestFixed 71 = .ok (.lstore_n 2, 1) := by decide +kernel
theorem dX5_bestFixed_72 : decode cX5_bestFixed 72 = .ok (.iload 4, 2) := by decide +kernel
theorem dX5_bestFixed_74 : decode cX5_bestFixed 74 = .ok (.istore_n 1, 1) := by decide +kernel
theorem dX5_bestFixed_75 : decode cX5_bestFixed 75 = .ok (.iinc 4 1, 3) := by decide +kernel
theorem dX5_bestFixed_78 : decode cX5_bestFixed 78 = .ok (.goto (-49), 3) := by decide +kernel
theorem dX5_bestFixed_81 : decode cX5_bestFixed 81 = .ok (.iload_n 1, 1) := by decide +kernel
theorem dX5_bestFixed_82 : decode cX5_bestFixed 82 = .ok (.ireturn, 1) := by decide +kernel
theorem dX5_recallGain_0 : decode cX5_recallGain 0 = .ok (.aload_n 0, 1) := by decide +kernel
theorem dX5_recallGain_1 : decode cX5_recallGain 1 = .ok (.getfield 48, 3) := by decide +kernel
theorem dX5_recallGain_4 : decode cX5_recallGain 4 = .ok (.aload_n 0, 1) := by decide +kernel
theorem dX5_recallGain_5 : decode cX5_recallGain 5 = .ok (.getfield 9, 3) := by decide +kernel
theorem dX5_recallGain_8 : decode cX5_recallGain 8 = .ok (.invokevirtual 159, 3) := by decide +kernel
theorem dX5_recallGain_11 : decode cX5_recallGain 11 = .ok (.aload_n 0, 1) := by decide +kernel
theorem dX5_recallGain_12 : decode cX5_recallGain 12 = .ok (.getfield 52, 3) := by decide +kernel
theorem dX5_recallGain_15 : decode cX5_recallGain 15 = .ok (.aload_n 0, 1) := by decide +kernel
theorem dX5_recallGain_16 : decode cX5_recallGain 16 = .ok (.getfield 9, 3) := by decide +kernel
theorem dX5_recallGain_19 : decode cX5_recallGain 19 = .ok (.invokevirtual 159, 3) := by decide +kernel
theorem dX5_recallGain_22 : decode cX5_recallGain 22 = .ok (.aload_n 0, 1) := by decide +kernel
theorem dX5_recallGain_23 : decode cX5_recallGain 23 = .ok (.getfield 48, 3) := by decide +kernel
theorem dX5_recallGain_26 : decode cX5_recallGain 26 = .ok (.iconst 1, 1) := by decide +kernel
theorem dX5_recallGain_27 : decode cX5_recallGain 27 = .ok (.aload_n 0, 1) := by decide +kernel
theorem dX5_recallGain_28 : decode cX5_recallGain 28 = .ok (.invokevirtual 143, 3) := by decide +kernel
theorem dX5_recallGain_31 : decode cX5_recallGain 31 = .ok (.iconst 5, 1) := by decide +kernel
theorem dX5_recallGain_32 : decode cX5_recallGain 32 = .ok (.iconst 5, 1) := by decide +kernel
theorem dX5_recallGain_33 : decode cX5_recallGain 33 = .ok (.invokevirtual 160, 3) := by decide +kernel
theorem dX5_recallGain_36 : decode cX5_recallGain 36 = .ok (.lstore_n 1, 1) := by decide +kernel
theorem dX5_recallGain_37 : decode cX5_recallGain 37 = .ok (.aload_n 0, 1) := by decide +kernel
theorem dX5_recallGain_38 : decode cX5_recallGain 38 = .ok (.getfield 52, 3) := by decide +kernel
theorem dX5_recallGain_41 : decode cX5_recallGain 41 = .ok (.iconst 1, 1) := by decide +kernel
theorem dX5_recallGain_42 : decode cX5_recallGain 42 = .ok (.aload_n 0, 1) := by decide +kernel
theorem dX5_recallGain_43 : decode cX5_recallGain 43 = .ok (.invokevirtual 143, 3) := by decide +kernel
theorem dX5_recallGain_46 : decode cX5_recallGain 46 = .ok (.iconst 5, 1) := by decide +kernel
theorem dX5_recallGain_47 : decode cX5_recallGain 47 = .ok (.iconst 5, 1) := by decide +kernel
theorem dX5_recallGain_48 : decode cX5_recallGain 48 = .ok (.invokevirtual 160, 3) := by decide +kernel
theorem dX5_recallGain_51 : decode cX5_recallGain 51 = .ok (.lstore_n 3, 1) := by decide +kernel
theorem dX5_recallGain_52 : decode cX5_recallGain 52 = .ok (.aload_n 0, 1) := by decide +kernel
theorem dX5_recallGain_53 : decode cX5_recallGain 53 = .ok (.lload_n 1, 1) := by decide +kernel
theorem dX5_recallGain_54 : decode cX5_recallGain 54 = .ok (.lload_n 3, 1) := by decide +kernel
theorem dX5_recallGain_55 : decode cX5_recallGain 55 = .ok (.lsub, 1) := by decide +kernel
theorem dX5_recallGain_56 : decode cX5_recallGain 56 = .ok (.ldc2_w 163, 3) := by decide +kernel
theorem dX5_recallGain_59 : decode cX5_recallGain 59 = .ok (.invokevirtual 123, 3) := by decide +kernel
theorem dX5_recallGain_62 : decode cX5_recallGain 62 = .ok (.lreturn, 1) := by decide +kernel
theorem dX5_price_0 : decode cX5_price 0 = .ok (.aload_n 0, 1) := by decide +kernel
theorem dX5_price_1 : decode cX5_price 1 = .ok (.invokevirtual 143, 3) := by decide +kernel
theorem dX5_price_4 : decode cX5_price 4 = .ok (.iconst 3, 1) := by decide +kernel
theorem dX5_price_5 : decode cX5_price 5 = .ok (.if_icmp .lt 7, 3) := by decide +kernel
theorem dX5_price_8 : decode cX5_price 8 = .ok (.ldc2_w 112, 3) := by decide +kernel
theorem dX5_price_11 : decode cX5_price 11 = .ok (.lreturn, 1) := by decide +kernel
theorem dX5_price_12 : decode cX5_price 12 = .ok (.iload_n 1, 1) := by decide +kernel
theorem dX5_price_13 : decode cX5_price 13 = .ok (.ifCond .eq 10, 3) := by decide +kernel
theorem dX5_price_16 : decode cX5_price 16 = .ok (.aload_n 0, 1) := by decide +kernel
theorem dX5_price_17 : decode cX5_price 17 = .ok (.invokevirtual 184, 3) := by decide +kernel
theorem dX5_price_20 : decode cX5_price 20 = .ok (.goto 7, 3) := by decide +kernel
theorem dX5_price_23 : decode cX5_price 23 = .ok (.aload_n 0, 1) := by decide +kernel
theorem dX5_price_24 : decode cX5_price 24 = .ok (.invokevirtual 188, 3) := by decide +kernel
theorem dX5_price_27 : decode cX5_price 27 = .ok (.lreturn, 1) := by decide +kernel
theorem dX5_denominator_0 : decode cX5_denominator 0 = .ok (.aload_n 0, 1) := by decide +kernel
theorem dX5_denominator_1 : decode cX5_denominator 1 = .ok (.getfield 62, 3) := by decide +kernel
theorem dX5_denominator_4 : decode cX5_denominator 4 = .ok (.lreturn, 1) := by decide +kernel
theorem dX5_simulateRanks_0 : decode cX5_simulateRanks 0 = .ok (.iload_n 2, 1) := by decide +kernel
theorem dX5_simulateRanks_1 : decode cX5_simulateRanks 1 = .ok (.ifCond .lt 8, 3) := by decide +kernel
theorem dX5_simulateRanks_4 : decode cX5_simulateRanks 4 = .ok (.iload_n 2, 1) := by decide +kernel
theorem dX5_simulateRanks_5 : decode cX5_simulateRanks 5 = .ok (.iconst 2, 1) := by decide +kernel
theorem dX5_simulateRanks_6 : decode cX5_simulateRanks 6 = .ok (.if_icmp .le 5, 3) := by decide +kernel
theorem dX5_simulateRanks_9 : decode cX5_simulateRanks 9 = .ok (.iconst (-1), 1) := by decide +kernel
theorem dX5_simulateRanks_10 : decode cX5_simulateRanks 10 = .ok (.ireturn, 1) := by decide +kernel
theorem dX5_simulateRanks_11 : decode cX5_simulateRanks 11 = .ok (.aload_n 0, 1) := by decide +kernel
theorem dX5_simulateRanks_12 : decode cX5_simulateRanks 12 = .ok (.getfield 39, 3) := by decide +kernel
theorem dX5_simulateRanks_15 : decode cX5_simulateRanks 15 = .ok (.aload_n 0, 1) := by decide +kernel
theorem dX5_simulateRanks_16 : decode cX5_simulateRanks 16 = .ok (.getfield 9, 3) := by decide +kernel
theorem dX5_simulateRanks_19 : decode cX5_simulateRanks 19 = .ok (.invokevirtual 114, 3) := by decide +kernel
theorem dX5_simulateRanks_22 : decode cX5_simulateRanks 22 = .ok (.aload_n 0, 1) := by decide +kernel
theorem dX5_simulateRanks_23 : decode cX5_simulateRanks 23 = .ok (.getfield 58, 3) := by decide +kernel
theorem dX5_simulateRanks_26 : decode cX5_simulateRanks 26 = .ok (.aload_n 0, 1) := by decide +kernel
theorem dX5_simulateRanks_27 : decode cX5_simulateRanks 27 = .ok (.getfield 39, 3) := by decide +kernel
theorem dX5_simulateRanks_30 : decode cX5_simulateRanks 30 = .ok (.aload_n 0, 1) := by decide +kernel
theorem dX5_simulateRanks_31 : decode cX5_simulateRanks 31 = .ok (.getfield 9, 3) := by decide +kernel
theorem dX5_simulateRanks_34 : decode cX5_simulateRanks 34 = .ok (.iload_n 1, 1) := by decide +kernel
theorem dX5_simulateRanks_35 : decode cX5_simulateRanks 35 = .ok (.invokevirtual 191, 3) := by decide +kernel
theorem dX5_simulateRanks_38 : decode cX5_simulateRanks 38 = .ok (.aload_n 0, 1) := by decide +kernel
theorem dX5_simulateRanks_39 : decode cX5_simulateRanks 39 = .ok (.getfield 58, 3) := by decide +kernel
theorem dX5_simulateRanks_42 : decode cX5_simulateRanks 42 = .ok (.iload_n 2, 1) := by decide +kernel
theorem dX5_simulateRanks_43 : decode cX5_simulateRanks 43 = .ok (.invokevirtual 195, 3) := by decide +kernel
theorem dX5_simulateRanks_46 : decode cX5_simulateRanks 46 = .ok (.ireturn, 1) := by decide +kernel
theorem dX5_simulateValues_0 : decode cX5_simulateValues 0 = .ok (.iload_n 2, 1) := by decide +kernel
theorem dX5_simulateValues_1 : decode cX5_simulateValues 1 = .ok (.ifCond .lt 8, 3) := by decide +kernel
theorem dX5_simulateValues_4 : decode cX5_simulateValues 4 = .ok (.iload_n 2, 1) := by decide +kernel
theorem dX5_simulateValues_5 : decode cX5_simulateValues 5 = .ok (.iconst 4, 1) := by decide +kernel
theorem dX5_simulateValues_6 : decode cX5_simulateValues 6 = .ok (.if_icmp .le 5, 3) := by decide +kernel
theorem dX5_simulateValues_9 : decode cX5_simulateValues 9 = .ok (.iconst (-1), 1) := by decide +kernel
theorem dX5_simulateValues_10 : decode cX5_simulateValues 10 = .ok (.ireturn, 1) := by decide +kernel
theorem dX5_simulateValues_11 : decode cX5_simulateValues 11 = .ok (.aload_n 0, 1) := by decide +kernel
theorem dX5_simulateValues_12 : decode cX5_simulateValues 12 = .ok (.getfield 48, 3) := by decide +kernel
theorem dX5_simulateValues_15 : decode cX5_simulateValues 15 = .ok (.aload_n 0, 1) := by decide +kernel
theorem dX5_simulateValues_16 : decode cX5_simulateValues 16 = .ok (.getfield 9, 3) := by decide +kernel
theorem dX5_simulateValues_19 : decode cX5_simulateValues 19 = .ok (.invokevirtual 159, 3) := by decide +kernel
theorem dX5_simulateValues_22 : decode cX5_simulateValues 22 = .ok (.aload_n 0, 1) := by decide +kernel
theorem dX5_simulateValues_23 : decode cX5_simulateValues 23 = .ok (.getfield 58, 3) := by decide +kernel
theorem dX5_simulateValues_26 : decode cX5_simulateValues 26 = .ok (.aload_n 0, 1) := by decide +kernel
theorem dX5_simulateValues_27 : decode cX5_simulateValues 27 = .ok (.getfield 48, 3) := by decide +kernel
theorem dX5_simulateValues_30 : decode cX5_simulateValues 30 = .ok (.aload_n 0, 1) := by decide +kernel
theorem dX5_simulateValues_31 : decode cX5_simulateValues 31 = .ok (.getfield 9, 3) := by decide +kernel
theorem dX5_simulateValues_34 : decode cX5_simulateValues 34 = .ok (.iload_n 1, 1) := by decide +kernel
theorem dX5_simulateValues_35 : decode cX5_simulateValues 35 = .ok (.invokevirtual 198, 3) := by decide +kernel
theorem dX5_simulateValues_38 : decode cX5_simulateValues 38 = .ok (.aload_n 0, 1) := by decide +kernel
theorem dX5_simulateValues_39 : decode cX5_simulateValues 39 = .ok (.getfield 58, 3) := by decide +kernel
theorem dX5_simulateValues_42 : decode cX5_simulateValues 42 = .ok (.iload_n 2, 1) := by decide +kernel
theorem dX5_simulateValues_43 : decode cX5_simulateValues 43 = .ok (.invokevirtual 195, 3) := by decide +kernel
theorem dX5_simulateValues_46 : decode cX5_simulateValues 46 = .ok (.ireturn, 1) := by decide +kernel
theorem dX5_undo_0 : decode cX5_undo 0 = .ok (.aload_n 0, 1) := by decide +kernel
theorem dX5_undo_1 : decode cX5_undo 1 = .ok (.getfield 32, 3) := by decide +kernel
theorem dX5_undo_4 : decode cX5_undo 4 = .ok (.invokevirtual 202, 3) := by decide +kernel
theorem dX5_undo_7 : decode cX5_undo 7 = .ok (.ifCond .ne 6, 3) := by decide +kernel
theorem dX5_undo_10 : decode cX5_undo 10 = .ok (.bipush (-2), 2) := by decide +kernel
theorem dX5_undo_12 : decode cX5_undo 12 = .ok (.ireturn, 1) := by decide +kernel
theorem dX5_undo_13 : decode cX5_undo 13 = .ok (.aload_n 0, 1) := by decide +kernel
theorem dX5_undo_14 : decode cX5_undo 14 = .ok (.getfield 32, 3) := by decide +kernel
theorem dX5_undo_17 : decode cX5_undo 17 = .ok (.aload_n 0, 1) := by decide +kernel
theorem dX5_undo_18 : decode cX5_undo 18 = .ok (.getfield 9, 3) := by decide +kernel
theorem dX5_undo_21 : decode cX5_undo 21 = .ok (.invokevirtual 205, 3) := by decide +kernel
theorem dX5_undo_24 : decode cX5_undo 24 = .ok (.aload_n 0, 1) := by decide +kernel
theorem dX5_undo_25 : decode cX5_undo 25 = .ok (.invokevirtual 208, 3) := by decide +kernel
theorem dX5_undo_28 : decode cX5_undo 28 = .ok (.aload_n 0, 1) := by decide +kernel
theorem dX5_undo_29 : decode cX5_undo 29 = .ok (.getfield 32, 3) := by decide +kernel
theorem dX5_undo_32 : decode cX5_undo 32 = .ok (.invokevirtual 202, 3) := by decide +kernel
theorem dX5_undo_35 : decode cX5_undo 35 = .ok (.ireturn, 1) := by decide +kernel
theorem dX5_count_0 : decode cX5_count 0 = .ok (.iload_n 1, 1) := by decide +kernel
theorem dX5_count_1 : decode cX5_count 1 = .ok (.tableswitch 57 0 3 #[31, 39, 47, 52], 31) := by decide +kernel
theorem dX5_count_32 : decode cX5_count 32 = .ok (.aload_n 0, 1) := by decide +kernel
theorem dX5_count_33 : decode cX5_count 33 = .ok (.getfield 25, 3) := by decide +kernel
theorem dX5_count_36 : decode cX5_count 36 = .ok (.invokevirtual 211, 3) := by decide +kernel
theorem dX5_count_39 : decode cX5_count 39 = .ok (.ireturn, 1) := by decide +kernel
theorem dX5_count_40 : decode cX5_count 40 = .ok (.aload_n 0, 1) := by decide +kernel
theorem dX5_count_41 : decode cX5_count 41 = .ok (.getfield 32, 3) := by decide +kernel
theorem dX5_count_44 : decode cX5_count 44 = .ok (.invokevirtual 202, 3) := by decide +kernel
theorem dX5_count_47 : decode cX5_count 47 = .ok (.ireturn, 1) := by decide +kernel
theorem dX5_count_48 : decode cX5_count 48 = .ok (.aload_n 0, 1) := by decide +kernel
theorem dX5_count_49 : decode cX5_count 49 = .ok (.invokevirtual 212, 3) := by decide +kernel
theorem dX5_count_52 : decode cX5_count 52 = .ok (.ireturn, 1) := by decide +kernel
theorem dX5_count_53 : decode cX5_count 53 = .ok (.aload_n 0, 1) := by decide +kernel
theorem dX5_count_54 : decode cX5_count 54 = .ok (.invokevirtual 215, 3) := by decide +kernel
theorem dX5_count_57 : decode cX5_count 57 = .ok (.ireturn, 1) := by decide +kernel
theorem dX5_count_58 : decode cX5_count 58 = .ok (.iconst (-1), 1) := by decide +kernel
theorem dX5_count_59 : decode cX5_count 59 = .ok (.ireturn, 1) := by decide +kernel
theorem dX5_digest_0 : decode cX5_digest 0 = .ok (.aload_n 0, 1) := by decide +kernel
theorem dX5_digest_1 : decode cX5_digest 1 = .ok (.getfield 62, 3) := by decide +kernel
theorem dX5_digest_4 : decode cX5_digest 4 = .ok (.lstore_n 1, 1) := by decide +kernel
theorem dX5_digest_5 : decode cX5_digest 5 = .ok (.ldc2_w 218, 3) := by decide +kernel
theorem dX5_digest_8 : decode cX5_digest 8 = .ok (.lstore_n 3, 1) := by decide +kernel
theorem dX5_digest_9 : decode cX5_digest 9 = .ok (.iconst 0, 1) := by decide +kernel
theorem dX5_digest_10 : decode cX5_digest 10 = .ok (.istore 5, 2) := by decide +kernel
theorem dX5_digest_12 : decode cX5_digest 12 = .ok (.iload 5, 2) := by decide +kernel
theorem dX5_digest_14 : decode cX5_digest 14 = .ok (.bipush 22, 2) := by decide +kernel
theorem dX5_digest_16 : decode cX5_digest 16 = .ok (.if_icmp .ge 21, 3) := by decide +kernel
theorem dX5_digest_19 : decode cX5_digest 19 = .ok (.lload_n 3, 1) := by decide +kernel
theorem dX5_digest_20 : decode cX5_digest 20 = .ok (.aload_n 0, 1) := by decide +kernel
theorem dX5_digest_21 : decode cX5_digest 21 = .ok (.iload 5, 2) := by decide +kernel
theorem dX5_digest_23 : decode cX5_digest 23 = .ok (.invokevirtual 220, 3) := by decide +kernel
theorem dX5_digest_26 : decode cX5_digest 26 = .ok (.i2l, 1) := by decide +kernel
theorem dX5_digest_27 : decode cX5_digest 27 = .ok (.invokestatic 223, 3) := by decide +kernel
theorem dX5_digest_30 : decode cX5_digest 30 = .ok (.lstore_n 3, 1) := by decide +kernel
theorem dX5_digest_31 : decode cX5_digest 31 = .ok (.iinc 5 1, 3) := by decide +kernel
theorem dX5_digest_34 : decode cX5_digest 34 = .ok (.goto (-22), 3) := by decide +kernel
theorem dX5_digest_37 : decode cX5_digest 37 = .ok (.aload_n 0, 1) := by decide +kernel
theorem dX5_digest_38 : decode cX5_digest 38 = .ok (.lload_n 3, 1) := by decide +kernel
theorem dX5_digest_39 : decode cX5_digest 39 = .ok (.invokevirtual 226, 3) := by decide +kernel
theorem dX5_digest_42 : decode cX5_digest 42 = .ok (.lstore_n 3, 1) := by decide +kernel
theorem dX5_digest_43 : decode cX5_digest 43 = .ok (.aload_n 0, 1) := by decide +kernel
theorem dX5_digest_44 : decode cX5_digest 44 = .ok (.lload_n 3, 1) := by decide +kernel
theorem dX5_digest_45 : decode cX5_digest 45 = .ok (.invokevirtual 230, 3) := by decide +kernel
theorem dX5_digest_48 : decode cX5_digest 48 = .ok (.lstore_n 3, 1) := by decide +kernel
theorem dX5_digest_49 : decode cX5_digest 49 = .ok (.aload_n 0, 1) := by decide +kernel
theorem dX5_digest_50 : decode cX5_digest 50 = .ok (.lload_n 3, 1) := by decide +kernel
theorem dX5_digest_51 : decode cX5_digest 51 = .ok (.invokevirtual 233, 3) := by decide +kernel
theorem dX5_digest_54 : decode cX5_digest 54 = .ok (.lstore_n 3, 1) := by decide +kernel
theorem dX5_digest_55 : decode cX5_digest 55 = .ok (.aload_n 0, 1) := by decide +kernel
theorem dX5_digest_56 : decode cX5_digest 56 = .ok (.lload_n 3, 1) := by decide +kernel
theorem dX5_digest_57 : decode cX5_digest 57 = .ok (.invokevirtual 236, 3) := by decide +kernel
theorem dX5_digest_60 : decode cX5_digest 60 = .ok (.lstore_n 3, 1) := by decide +kernel
theorem dX5_digest_61 : decode cX5_digest 61 = .ok (.iconst 0, 1) := by decide +kernel
theorem dX5_digest_62 : decode cX5_digest 62 = .ok (.istore 5, 2) := by decide +kernel
theorem dX5_digest_64 : decode cX5_digest 64 = .ok (.iload 5, 2) := by decide +kernel
theorem dX5_digest_66 : decode cX5_digest 66 = .ok (.iconst 3, 1) := by decide +kernel
theorem dX5_digest_67 : decode cX5_digest 67 = .ok (.if_icmp .gt 21, 3) := by decide +kernel
theorem dX5_digest_70 : decode cX5_digest 70 = .ok (.lload_n 3, 1) := by decide +kernel
theorem dX5_digest_71 : decode cX5_digest 71 = .ok (.aload_n 0, 1) := by decide +kernel
theorem dX5_digest_72 : decode cX5_digest 72 = .ok (.iload 5, 2) := by decide +kernel
theorem dX5_digest_74 : decode cX5_digest 74 = .ok (.invokevirtual 239, 3) := by decide +kernel
theorem dX5_digest_77 : decode cX5_digest 77 = .ok (.i2l, 1) := by decide +kernel
theorem dX5_digest_78 : decode cX5_digest 78 = .ok (.invokestatic 223, 3) := by decide +kernel
theorem dX5_digest_81 : decode cX5_digest 81 = .ok (.lstore_n 3, 1) := by decide +kernel
theorem dX5_digest_82 : decode cX5_digest 82 = .ok (.iinc 5 1, 3) := by decide +kernel
theorem dX5_digest_85 : decode cX5_digest 85 = .ok (.goto (-21), 3) := by decide +kernel
theorem dX5_digest_88 : decode cX5_digest 88 = .ok (.aload_n 0, 1) := by decide +kernel
theorem dX5_digest_89 : decode cX5_digest 89 = .ok (.lload_n 1, 1) := by decide +kernel
theorem dX5_digest_90 : decode cX5_digest 90 = .ok (.putfield 62, 3) := by decide +kernel
theorem dX5_digest_93 : decode cX5_digest 93 = .ok (.lload_n 3, 1) := by decide +kernel
theorem dX5_digest_94 : decode cX5_digest 94 = .ok (.lreturn, 1) := by decide +kernel
theorem dX5_candidates_0 : decode cX5_candidates 0 = .ok (.aload_n 0, 1) := by decide +kernel
theorem dX5_candidates_1 : decode cX5_candidates 1 = .ok (.getfield 9, 3) := by decide +kernel
theorem dX5_candidates_4 : decode cX5_candidates 4 = .ok (.iconst 0, 1) := by decide +kernel
theorem dX5_candidates_5 : decode cX5_candidates 5 = .ok (.iaload, 1) := by decide +kernel
theorem dX5_candidates_6 : decode cX5_candidates 6 = .ok (.ireturn, 1) := by decide +kernel
theorem dX5_choices_0 : decode cX5_choices 0 = .ok (.aload_n 0, 1) := by decide +kernel
theorem dX5_choices_1 : decode cX5_choices 1 = .ok (.getfield 9, 3) := by decide +kernel
theorem dX5_choices_4 : decode cX5_choices 4 = .ok (.iconst 1, 1) := by decide +kernel
theorem dX5_choices_5 : decode cX5_choices 5 = .ok (.iaload, 1) := by decide +kernel
theorem dX5_choices_6 : decode cX5_choices 6 = .ok (.ireturn, 1) := by decide +kernel
theorem dX5_isNoCandidate_0 : decode cX5_isNoCandidate 0 = .ok (.iload_n 1, 1) := by decide +kernel
theorem dX5_isNoCandidate_1 : decode cX5_isNoCandidate 1 = .ok (.iconst 1, 1) := by decide +kernel
theorem dX5_isNoCandidate_2 : decode cX5_isNoCandidate 2 = .ok (.if_icmp .lt 11, 3) := by decide +kernel
theorem dX5_isNoCandidate_5 : decode cX5_isNoCandidate 5 = .ok (.iload_n 1, 1) := by decide +kernel
theorem dX5_isNoCandidate_6 : decode cX5_isNoCandidate 6 = .ok (.aload_n 0, 1) := by decide +kernel
theorem dX5_isNoCandidate_7 : decode cX5_isNoCandidate 7 = .ok (.invokevirtual 149, 3) := by decide +kernel
theorem dX5_isNoCandidate_10 : decode cX5_isNoCandidate 10 = .ok (.if_icmp .le 7, 3) := by decide +kernel
theorem dX5_isNoCandidate_13 : decode cX5_isNoCandidate 13 = .ok (.iconst 1, 1) := by decide +kernel
theorem dX5_isNoCandidate_14 : decode cX5_isNoCandidate 14 = .ok (.goto 4, 3) := by decide +kernel
theorem dX5_isNoCandidate_17 : decode cX5_isNoCandidate 17 = .ok (.iconst 0, 1) := by decide +kernel
theorem dX5_isNoCandidate_18 : decode cX5_isNoCandidate 18 = .ok (.ireturn, 1) := by decide +kernel
theorem dX5_isNoPlace_0 : decode cX5_isNoPlace 0 = .ok (.iload_n 1, 1) := by decide +kernel
theorem dX5_isNoPlace_1 : decode cX5_isNoPlace 1 = .ok (.iconst 1, 1) := by decide +kernel
theorem dX5_isNoPlace_2 : decode cX5_isNoPlace 2 = .ok (.if_icmp .lt 13, 3) := by decide +kernel
theorem dX5_isNoPlace_5 : decode cX5_isNoPlace 5 = .ok (.iload_n 1, 1) := by decide +kernel
theorem dX5_isNoPlace_6 : decode cX5_isNoPlace 6 = .ok (.aload_n 0, 1) := by decide +kernel
theorem dX5_isNoPlace_7 : decode cX5_isNoPlace 7 = .ok (.invokevirtual 149, 3) := by decide +kernel
theorem dX5_isNoPlace_10 : decode cX5_isNoPlace 10 = .ok (.iconst 1, 1) := by decide +kernel
theorem dX5_isNoPlace_11 : decode cX5_isNoPlace 11 = .ok (.iadd, 1) := by decide +kernel
theorem dX5_isNoPlace_12 : decode cX5_isNoPlace 12 = .ok (.if_icmp .le 7, 3) := by decide +kernel
theorem dX5_isNoPlace_15 : decode cX5_isNoPlace 15 = .ok (.iconst 1, 1) := by decide +kernel
theorem dX5_isNoPlace_16 : decode cX5_isNoPlace 16 = .ok (.goto 4, 3) := by decide +kernel
theorem dX5_isNoPlace_19 : decode cX5_isNoPlace 19 = .ok (.iconst 0, 1) := by decide +kernel
theorem dX5_isNoPlace_20 : decode cX5_isNoPlace 20 = .ok (.ireturn, 1) := by decide +kernel
theorem dX5_isNoNumberLeft_0 : decode cX5_isNoNumberLeft 0 = .ok (.iload_n 1, 1) := by decide +kernel
theorem dX5_isNoNumberLeft_1 : decode cX5_isNoNumberLeft 1 = .ok (.ifCond .lt 11, 3) := by decide +kernel
theorem dX5_isNoNumberLeft_4 : decode cX5_isNoNumberLeft 4 = .ok (.iload_n 1, 1) := by decide +kernel
theorem dX5_isNoNumberLeft_5 : decode cX5_isNoNumberLeft 5 = .ok (.aload_n 0, 1) := by decide +kernel
theorem dX5_isNoNumberLeft_6 : decode cX5_isNoNumberLeft 6 = .ok (.invokevirtual 143, 3) := by decide +kernel
theorem dX5_isNoNumberLeft_9 : decode cX5_isNoNumberLeft 9 = .ok (.if_icmp .le 7, 3) := by decide +kernel
theorem dX5_isNoNumberLeft_12 : decode cX5_isNoNumberLeft 12 = .ok (.iconst 1, 1) := by decide +kernel
theorem dX5_isNoNumberLeft_13 : decode cX5_isNoNumberLeft 13 = .ok (.goto 4, 3) := by decide +kernel
theorem dX5_isNoNumberLeft_16 : decode cX5_isNoNumberLeft 16 = .ok (.iconst 0, 1) := by decide +kernel
theorem dX5_isNoNumberLeft_17 : decode cX5_isNoNumberLeft 17 = .ok (.ireturn, 1) := by decide +kernel
theorem dX5_isNoChoiceLeft_0 : decode cX5_isNoChoiceLeft 0 = .ok (.iload_n 1, 1) := by decide +kernel
theorem dX5_isNoChoiceLeft_1 : decode cX5_isNoChoiceLeft 1 = .ok (.iconst 1, 1) := by decide +kernel
theorem dX5_isNoChoiceLeft_2 : decode cX5_isNoChoiceLeft 2 = .ok (.if_icmp .lt 11, 3) := by decide +kernel
theorem dX5_isNoChoiceLeft_5 : decode cX5_isNoChoiceLeft 5 = .ok (.iload_n 1, 1) := by decide +kernel
theorem dX5_isNoChoiceLeft_6 : decode cX5_isNoChoiceLeft 6 = .ok (.aload_n 0, 1) := by decide +kernel
theorem dX5_isNoChoiceLeft_7 : decode cX5_isNoChoiceLeft 7 = .ok (.invokevirtual 143, 3) := by decide +kernel
theorem dX5_isNoChoiceLeft_10 : decode cX5_isNoChoiceLeft 10 = .ok (.if_icmp .le 7, 3) := by decide +kernel
theorem dX5_isNoChoiceLeft_13 : decode cX5_isNoChoiceLeft 13 = .ok (.iconst 1, 1) := by decide +kernel
theorem dX5_isNoChoiceLeft_14 : decode cX5_isNoChoiceLeft 14 = .ok (.goto 4, 3) := by decide +kernel
theorem dX5_isNoChoiceLeft_17 : decode cX5_isNoChoiceLeft 17 = .ok (.iconst 0, 1) := by decide +kernel
theorem dX5_isNoChoiceLeft_18 : decode cX5_isNoChoiceLeft 18 = .ok (.ireturn, 1) := by decide +kernel
theorem dX5_isNoSituation_0 : decode cX5_isNoSituation 0 = .ok (.aload_n 0, 1) := by decide +kernel
theorem dX5_isNoSituation_1 : decode cX5_isNoSituation 1 = .ok (.iload_n 1, 1) := by decide +kernel
theorem dX5_isNoSituation_2 : decode cX5_isNoSituation 2 = .ok (.invokevirtual 127, 3) := by decide +kernel
theorem dX5_isNoSituation_5 : decode cX5_isNoSituation 5 = .ok (.ifCond .ne 26, 3) := by decide +kernel
theorem dX5_isNoSituation_8 : decode cX5_isNoSituation 8 = .ok (.aload_n 0, 1) := by decide +kernel
theorem dX5_isNoSituation_9 : decode cX5_isNoSituation 9 = .ok (.iload_n 2, 1) := by decide +kernel
theorem dX5_isNoSituation_10 : decode cX5_isNoSituation 10 = .ok (.invokevirtual 130, 3) := by decide +kernel
theorem dX5_isNoSituation_13 : decode cX5_isNoSituation 13 = .ok (.ifCond .ne 18, 3) := by decide +kernel
theorem dX5_isNoSituation_16 : decode cX5_isNoSituation 16 = .ok (.iload_n 3, 1) := by decide +kernel
theorem dX5_isNoSituation_17 : decode cX5_isNoSituation 17 = .ok (.invokestatic 173, 3) := by decide +kernel
theorem dX5_isNoSituation_20 : decode cX5_isNoSituation 20 = .ok (.ifCond .ne 11, 3) := by decide +kernel
theorem dX5_isNoSituation_23 : decode cX5_isNoSituation 23 = .ok (.iload 4, 2) := by decide +kernel
theorem dX5_isNoSituation_25 : decode cX5_isNoSituation 25 = .ok (.invokestatic 173, 3) := by decide +kernel
theorem dX5_isNoSituation_28 : decode cX5_isNoSituation 28 = .ok (.ifCond .eq 7, 3) := by decide +kernel
theorem dX5_isNoSituation_31 : decode cX5_isNoSituation 31 = .ok (.iconst 1, 1) := by decide +kernel
theorem dX5_isNoSituation_32 : decode cX5_isNoSituation 32 = .ok (.goto 4, 3) := by decide +kernel
theorem dX5_isNoSituation_35 : decode cX5_isNoSituation 35 = .ok (.iconst 0, 1) := by decide +kernel
theorem dX5_isNoSituation_36 : decode cX5_isNoSituation 36 = .ok (.ireturn, 1) := by decide +kernel
theorem dX5_isNoLevel_0 : decode cX5_isNoLevel 0 = .ok (.iload_n 0, 1) := by decide +kernel
theorem dX5_isNoLevel_1 : decode cX5_isNoLevel 1 = .ok (.ifCond .lt 8, 3) := by decide +kernel
theorem dX5_isNoLevel_4 : decode cX5_isNoLevel 4 = .ok (.iload_n 0, 1) := by decide +kernel
theorem dX5_isNoLevel_5 : decode cX5_isNoLevel 5 = .ok (.iconst 5, 1) := by decide +kernel
theorem dX5_isNoLevel_6 : decode cX5_isNoLevel 6 = .ok (.if_icmp .lt 7, 3) := by decide +kernel
theorem dX5_isNoLevel_9 : decode cX5_isNoLevel 9 = .ok (.iconst 1, 1) := by decide +kernel
theorem dX5_isNoLevel_10 : decode cX5_isNoLevel 10 = .ok (.goto 4, 3) := by decide +kernel
theorem dX5_isNoLevel_13 : decode cX5_isNoLevel 13 = .ok (.iconst 0, 1) := by decide +kernel
theorem dX5_isNoLevel_14 : decode cX5_isNoLevel 14 = .ok (.ireturn, 1) := by decide +kernel
theorem dX5_isNoMemory_0 : decode cX5_isNoMemory 0 = .ok (.iload_n 0, 1) := by decide +kernel
theorem dX5_isNoMemory_1 : decode cX5_isNoMemory 1 = .ok (.ifCond .lt 8, 3) := by decide +kernel
theorem dX5_isNoMemory_4 : decode cX5_isNoMemory 4 = .ok (.iload_n 0, 1) := by decide +kernel
theorem dX5_isNoMemory_5 : decode cX5_isNoMemory 5 = .ok (.iconst 5, 1) := by decide +kernel
theorem dX5_isNoMemory_6 : decode cX5_isNoMemory 6 = .ok (.if_icmp .le 7, 3) := by decide +kernel
theorem dX5_isNoMemory_9 : decode cX5_isNoMemory 9 = .ok (.iconst 1, 1) := by decide +kernel
theorem dX5_isNoMemory_10 : decode cX5_isNoMemory 10 = .ok (.goto 4, 3) := by decide +kernel
theorem dX5_isNoMemory_13 : decode cX5_isNoMemory 13 = .ok (.iconst 0, 1) := by decide +kernel
theorem dX5_isNoMemory_14 : decode cX5_isNoMemory 14 = .ok (.ireturn, 1) := by decide +kernel
theorem dX5_change_0 : decode cX5_change 0 = .ok (.iload_n 2, 1) := by decide +kernel
theorem dX5_change_1 : decode cX5_change 1 = .ok (.getstatic 242, 3) := by decide +kernel
theorem dX5_change_4 : decode cX5_change 4 = .ok (.iload_n 1, 1) := by decide +kernel
theorem dX5_change_5 : decode cX5_change 5 = .ok (.iaload, 1) := by decide +kernel
theorem dX5_change_6 : decode cX5_change 6 = .ok (.if_icmp .lt 12, 3) := by decide +kernel
theorem dX5_change_9 : decode cX5_change 9 = .ok (.iload_n 2, 1) := by decide +kernel
theorem dX5_change_10 : decode cX5_change 10 = .ok (.getstatic 245, 3) := by decide +kernel
theorem dX5_change_13 : decode cX5_change 13 = .ok (.iload_n 1, 1) := by decide +kernel
theorem dX5_change_14 : decode cX5_change 14 = .ok (.iaload, 1) := by decide +kernel
theorem dX5_change_15 : decode cX5_change 15 = .ok (.if_icmp .le 5, 3) := by decide +kernel
theorem dX5_change_18 : decode cX5_change 18 = .ok (.iconst (-1), 1) := by decide +kernel
theorem dX5_change_19 : decode cX5_change 19 = .ok (.ireturn, 1) := by decide +kernel
theorem dX5_change_20 : decode cX5_change 20 = .ok (.aload_n 0, 1) := by decide +kernel
theorem dX5_change_21 : decode cX5_change 21 = .ok (.invokevirtual 92, 3) := by decide +kernel
theorem dX5_change_24 : decode cX5_change 24 = .ok (.aload_n 0, 1) := by decide +kernel
theorem dX5_change_25 : decode cX5_change 25 = .ok (.getfield 9, 3) := by decide +kernel
theorem dX5_change_28 : decode cX5_change 28 = .ok (.iload_n 1, 1) := by decide +kernel
theorem dX5_change_29 : decode cX5_change 29 = .ok (.iaload, 1) := by decide +kernel
theorem dX5_change_30 : decode cX5_change 30 = .ok (.istore_n 3, 1) := by decide +kernel
theorem dX5_change_31 : decode cX5_change 31 = .ok (.aload_n 0, 1) := by decide +kernel
theorem dX5_change_32 : decode cX5_change 32 = .ok (.getfield 9, 3) := by decide +kernel
theorem dX5_change_35 : decode cX5_change 35 = .ok (.iload_n 1, 1) := by decide +kernel
theorem dX5_change_36 : decode cX5_change 36 = .ok (.iload_n 2, 1) := by decide +kernel
theorem dX5_change_37 : decode cX5_change 37 = .ok (.iastore, 1) := by decide +kernel
theorem dX5_change_38 : decode cX5_change 38 = .ok (.iload_n 3, 1) := by decide +kernel
theorem dX5_change_39 : decode cX5_change 39 = .ok (.ireturn, 1) := by decide +kernel
theorem dX5_beginChange_0 : decode cX5_beginChange 0 = .ok (.aload_n 0, 1) := by decide +kernel
theorem dX5_beginChange_1 : decode cX5_beginChange 1 = .ok (.getfield 32, 3) := by decide +kernel
theorem dX5_beginChange_4 : decode cX5_beginChange 4 = .ok (.aload_n 0, 1) := by decide +kernel
theorem dX5_beginChange_5 : decode cX5_beginChange 5 = .ok (.getfield 9, 3) := by decide +kernel
theorem dX5_beginChange_8 : decode cX5_beginChange 8 = .ok (.invokevirtual 248, 3) := by decide +kernel
theorem dX5_beginChange_11 : decode cX5_beginChange 11 = .ok (.aload_n 0, 1) := by decide +kernel
theorem dX5_beginChange_12 : decode cX5_beginChange 12 = .ok (.invokevirtual 208, 3) := by decide +kernel
theorem dX5_beginChange_15 : decode cX5_beginChange 15 = .ok (.return_, 1) := by decide +kernel
theorem dX5_forgetSolutions_0 : decode cX5_forgetSolutions 0 = .ok (.aload_n 0, 1) := by decide +kernel
theorem dX5_forgetSolutions_1 : decode cX5_forgetSolutions 1 = .ok (.getfield 39, 3) := by decide +kernel
theorem dX5_forgetSolutions_4 : decode cX5_forgetSolutions 4 = .ok (.invokevirtual 251, 3) := by decide +kernel
theorem dX5_forgetSolutions_7 : decode cX5_forgetSolutions 7 = .ok (.aload_n 0, 1) := by decide +kernel
theorem dX5_forgetSolutions_8 : decode cX5_forgetSolutions 8 = .ok (.getfield 48, 3) := by decide +kernel
theorem dX5_forgetSolutions_11 : decode cX5_forgetSolutions 11 = .ok (.invokevirtual 254, 3) := by decide +kernel
theorem dX5_forgetSolutions_14 : decode cX5_forgetSolutions 14 = .ok (.aload_n 0, 1) := by decide +kernel
theorem dX5_forgetSolutions_15 : decode cX5_forgetSolutions 15 = .ok (.getfield 52, 3) := by decide +kernel
theorem dX5_forgetSolutions_18 : decode cX5_forgetSolutions 18 = .ok (.invokevirtual 254, 3) := by decide +kernel
theorem dX5_forgetSolutions_21 : decode cX5_forgetSolutions 21 = .ok (.return_, 1) := by decide +kernel
theorem dX5_priceOfValues_0 : decode cX5_priceOfValues 0 = .ok (.aload_n 0, 1) := by decide +kernel
theorem dX5_priceOfValues_1 : decode cX5_priceOfValues 1 = .ok (.getfield 48, 3) := by decide +kernel
theorem dX5_priceOfValues_4 : decode cX5_priceOfValues 4 = .ok (.aload_n 0, 1) := by decide +kernel
theorem dX5_priceOfValues_5 : decode cX5_priceOfValues 5 = .ok (.getfield 9, 3) := by decide +kernel
theorem dX5_priceOfValues_8 : decode cX5_priceOfValues 8 = .ok (.invokevirtual 159, 3) := by decide +kernel
theorem dX5_priceOfValues_11 : decode cX5_priceOfValues 11 = .ok (.aload_n 0, 1) := by decide +kernel
theorem dX5_priceOfValues_12 : decode cX5_priceOfValues 12 = .ok (.getfield 48, 3) := by decide +kernel
theorem dX5_priceOfValues_15 : decode cX5_priceOfValues 15 = .ok (.iconst 1, 1) := by decide +kernel
theorem dX5_priceOfValues_16 : decode cX5_priceOfValues 16 = .ok (.aload_n 0, 1) := by decide +kernel
theorem dX5_priceOfValues_17 : decode cX5_priceOfValues 17 = .ok (.invokevirtual 143, 3) := by decide +kernel
theorem dX5_priceOfValues_20 : decode cX5_priceOfValues 20 = .ok (.iconst 1, 1) := by decide +kernel
theorem dX5_priceOfValues_21 : decode cX5_priceOfValues 21 = .ok (.iadd, 1) := by decide +kernel
theorem dX5_priceOfValues_22 : decode cX5_priceOfValues 22 = .ok (.iconst 5, 1) := by decide +kernel
theorem dX5_priceOfValues_23 : decode cX5_priceOfValues 23 = .ok (.iconst 5, 1) := by decide +kernel
theorem dX5_priceOfValues_24 : decode cX5_priceOfValues 24 = .ok (.invokevirtual 160, 3) := by decide +kernel
theorem dX5_priceOfValues_27 : decode cX5_priceOfValues 27 = .ok (.lstore_n 1, 1) := by decide +kernel
theorem dX5_priceOfValues_28 : decode cX5_priceOfValues 28 = .ok (.aload_n 0, 1) := by decide +kernel
theorem dX5_priceOfValues_29 : decode cX5_priceOfValues 29 = .ok (.lload_n 1, 1) := by decide +kernel
theorem dX5_priceOfValues_30 : decode cX5_priceOfValues 30 = .ok (.aload_n 0, 1) := by decide +kernel
theorem dX5_priceOfValues_31 : decode cX5_priceOfValues 31 = .ok (.getfield 48, 3) := by decide +kernel
theorem dX5_priceOfValues_34 : decode cX5_priceOfValues 34 = .ok (.iconst 1, 1) := by decide +kernel
theorem dX5_priceOfValues_35 : decode cX5_priceOfValues 35 = .ok (.aload_n 0, 1) := by decide +kernel
theorem dX5_priceOfValues_36 : decode cX5_priceOfValues 36 = .ok (.invokevirtual 143, 3) := by decide +kernel
theorem dX5_priceOfValues_39 : decode cX5_priceOfValues 39 = .ok (.iconst 5, 1) := by decide +kernel
theorem dX5_priceOfValues_40 : decode cX5_priceOfValues 40 = .ok (.iconst 5, 1) := by decide +kernel
theorem dX5_priceOfValues_41 : decode cX5_priceOfValues 41 = .ok (.invokevirtual 160, 3) := by decide +kernel
theorem dX5_priceOfValues_44 : decode cX5_priceOfValues 44 = .ok (.lsub, 1) := by decide +kernel
theorem dX5_priceOfValues_45 : decode cX5_priceOfValues 45 = .ok (.ldc2_w 163, 3) := by decide +kernel
theorem dX5_priceOfValues_48 : decode cX5_priceOfValues 48 = .ok (.invokevirtual 123, 3) := by decide +kernel
theorem dX5_priceOfValues_51 : decode cX5_priceOfValues 51 = .ok (.lreturn, 1) := by decide +kernel
theorem dX5_priceOfRanks_0 : decode cX5_priceOfRanks 0 = .ok (.aload_n 0, 1) := by decide +kernel
theorem dX5_priceOfRanks_1 : decode cX5_priceOfRanks 1 = .ok (.getfield 39, 3) := by decide +kernel
theorem dX5_priceOfRanks_4 : decode cX5_priceOfRanks 4 = .ok (.aload_n 0, 1) := by decide +kernel
theorem dX5_priceOfRanks_5 : decode cX5_priceOfRanks 5 = .ok (.getfield 9, 3) := by decide +kernel
theorem dX5_priceOfRanks_8 : decode cX5_priceOfRanks 8 = .ok (.invokevirtual 114, 3) := by decide +kernel
theorem dX5_priceOfRanks_11 : decode cX5_priceOfRanks 11 = .ok (.aload_n 0, 1) := by decide +kernel
theorem dX5_priceOfRanks_12 : decode cX5_priceOfRanks 12 = .ok (.getfield 39, 3) := by decide +kernel
theorem dX5_priceOfRanks_15 : decode cX5_priceOfRanks 15 = .ok (.iconst 1, 1) := by decide +kernel
theorem dX5_priceOfRanks_16 : decode cX5_priceOfRanks 16 = .ok (.aload_n 0, 1) := by decide +kernel
theorem dX5_priceOfRanks_17 : decode cX5_priceOfRanks 17 = .ok (.invokevirtual 143, 3) := by decide +kernel
theorem dX5_priceOfRanks_20 : decode cX5_priceOfRanks 20 = .ok (.iconst 1, 1) := by decide +kernel
theorem dX5_priceOfRanks_21 : decode cX5_priceOfRanks 21 = .ok (.iadd, 1) := by decide +kernel
theorem dX5_priceOfRanks_22 : decode cX5_priceOfRanks 22 = .ok (.invokevirtual 133, 3) := by decide +kernel
theorem dX5_priceOfRanks_25 : decode cX5_priceOfRanks 25 = .ok (.lstore_n 1, 1) := by decide +kernel
theorem dX5_priceOfRanks_26 : decode cX5_priceOfRanks 26 = .ok (.aload_n 0, 1) := by decide +kernel
theorem dX5_priceOfRanks_27 : decode cX5_priceOfRanks 27 = .ok (.lload_n 1, 1) := by decide +kernel
theorem dX5_priceOfRanks_28 : decode cX5_priceOfRanks 28 = .ok (.aload_n 0, 1) := by decide +kernel
theorem dX5_priceOfRanks_29 : decode cX5_priceOfRanks 29 = .ok (.getfield 39, 3) := by decide +kernel
theorem dX5_priceOfRanks_32 : decode cX5_priceOfRanks 32 = .ok (.iconst 1, 1) := by decide +kernel
theorem dX5_priceOfRanks_33 : decode cX5_priceOfRanks 33 = .ok (.aload_n 0, 1) := by decide +kernel
theorem dX5_priceOfRanks_34 : decode cX5_priceOfRanks 34 = .ok (.invokevirtual 143, 3) := by decide +kernel
theorem dX5_priceOfRanks_37 : decode cX5_priceOfRanks 37 = .ok (.invokevirtual 133, 3) := by decide +kernel
theorem dX5_priceOfRanks_40 : decode cX5_priceOfRanks 40 = .ok (.lsub, 1) := by decide +kernel
theorem dX5_priceOfRanks_41 : decode cX5_priceOfRanks 41 = .ok (.ldc2_w 121, 3) := by decide +kernel
theorem dX5_priceOfRanks_44 : decode cX5_priceOfRanks 44 = .ok (.invokevirtual 123, 3) := by decide +kernel
theorem dX5_priceOfRanks_47 : decode cX5_priceOfRanks 47 = .ok (.lreturn, 1) := by decide +kernel
theorem dX5_isValueOfLevel_0 : decode cX5_isValueOfLevel 0 = .ok (.iconst 0, 1) := by decide +kernel
theorem dX5_isValueOfLevel_1 : decode cX5_isValueOfLevel 1 = .ok (.istore_n 2, 1) := by decide +kernel
theorem dX5_isValueOfLevel_2 : decode cX5_isValueOfLevel 2 = .ok (.iload_n 2, 1) := by decide +kernel
theorem dX5_isValueOfLevel_3 : decode cX5_isValueOfLevel 3 = .ok (.iconst 5, 1) := by decide +kernel
theorem dX5_isValueOfLevel_4 : decode cX5_isValueOfLevel 4 = .ok (.if_icmp .ge 24, 3) := by decide +kernel
theorem dX5_isValueOfLevel_7 : decode cX5_isValueOfLevel 7 = .ok (.aload_n 0, 1) := by decide +kernel
theorem dX5_isValueOfLevel_8 : decode cX5_isValueOfLevel 8 = .ok (.getfield 9, 3) := by decide +kernel
theorem dX5_isValueOfLevel_11 : decode cX5_isValueOfLevel 11 = .ok (.bipush 10, 2) := by decide +kernel
theorem dX5_isValueOfLevel_13 : decode cX5_isValueOfLevel 13 = .ok (.iload_n 2, 1) := by decide +kernel
theorem dX5_isValueOfLevel_14 : decode cX5_isValueOfLevel 14 = .ok (.iadd, 1) := by decide +kernel
theorem dX5_isValueOfLevel_15 : decode cX5_isValueOfLevel 15 = .ok (.iaload, 1) := by decide +kernel
theorem dX5_isValueOfLevel_16 : decode cX5_isValueOfLevel 16 = .ok (.iload_n 1, 1) := by decide +kernel
theorem dX5_isValueOfLevel_17 : decode cX5_isValueOfLevel 17 = .ok (.if_icmp .ne 5, 3) := by decide +kernel
theorem dX5_isValueOfLevel_20 : decode cX5_isValueOfLevel 20 = .ok (.iconst 1, 1) := by decide +kernel
theorem dX5_isValueOfLevel_21 : decode cX5_isValueOfLevel 21 = .ok (.ireturn, 1) := by decide +kernel
theorem dX5_isValueOfLevel_22 : decode cX5_isValueOfLevel 22 = .ok (.iinc 2 1, 3) := by decide +kernel
theorem dX5_isValueOfLevel_25 : decode cX5_isValueOfLevel 25 = .ok (.goto (-23), 3) := by decide +kernel
theorem dX5_isValueOfLevel_28 : decode cX5_isValueOfLevel 28 = .ok (.iconst 0, 1) := by decide +kernel
theorem dX5_isValueOfLevel_29 : decode cX5_isValueOfLevel 29 = .ok (.ireturn, 1) := by decide +kernel
theorem dX5_countWeightedLevels_0 : decode cX5_countWeightedLevels 0 = .ok (.iconst 0, 1) := by decide +kernel
theorem dX5_countWeightedLevels_1 : decode cX5_countWeightedLevels 1 = .ok (.istore_n 1, 1) := by decide +kernel
theorem dX5_countWeightedLevels_2 : decode cX5_countWeightedLevels 2 = .ok (.iconst 0, 1) := by decide +kernel
theorem dX5_countWeightedLevels_3 : decode cX5_countWeightedLevels 3 = .ok (.istore_n 2, 1) := by decide +kernel
theorem dX5_countWeightedLevels_4 : decode cX5_countWeightedLevels 4 = .ok (.iload_n 2, 1) := by decide +kernel
theorem dX5_countWeightedLevels_5 : decode cX5_countWeightedLevels 5 = .ok (.iconst 5, 1) := by decide +kernel
theorem dX5_countWeightedLevels_6 : decode cX5_countWeightedLevels 6 = .ok (.if_icmp .ge 24, 3) := by decide +kernel
theorem dX5_countWeightedLevels_9 : decode cX5_countWeightedLevels 9 = .ok (.aload_n 0, 1) := by decide +kernel
theorem dX5_countWeightedLevels_10 : decode cX5_countWeightedLevels 10 = .ok (.getfield 9, 3) := by decide +kernel
theorem dX5_countWeightedLevels_13 : decode cX5_countWeightedLevels 13 = .ok (.bipush 15, 2) := by decide +kernel
theorem dX5_countWeightedLevels_15 : decode cX5_countWeightedLevels 15 = .ok (.iload_n 2, 1) := by decide +kernel
theorem dX5_countWeightedLevels_16 : decode cX5_countWeightedLevels 16 = .ok (.iadd, 1) := by decide +kernel
theorem dX5_countWeightedLevels_17 : decode cX5_countWeightedLevels 17 = .ok (.iaload, 1) := by decide +kernel
theorem dX5_countWeightedLevels_18 : decode cX5_countWeightedLevels 18 = .ok (.ifCond .le 6, 3) := by decide +kernel
theorem dX5_countWeightedLevels_21 : decode cX5_countWeightedLevels 21 = .ok (.iinc 1 1, 3) := by decide +kernel
theorem dX5_countWeightedLevels_24 : decode cX5_countWeightedLevels 24 = .ok (.iinc 2 1, 3) := by decide +kernel
theorem dX5_countWeightedLevels_27 : decode cX5_countWeightedLevels 27 = .ok (.goto (-23), 3) := by decide +kernel
theorem dX5_countWeightedLevels_30 : decode cX5_countWeightedLevels 30 = .ok (.iload_n 1, 1) := by decide +kernel
theorem dX5_countWeightedLevels_31 : decode cX5_countWeightedLevels 31 = .ok (.ireturn, 1) := by decide +kernel
theorem dX5_countQuits_0 : decode cX5_countQuits 0 = .ok (.aload_n 0, 1) := by decide +kernel
theorem dX5_countQuits_1 : decode cX5_countQuits 1 = .ok (.getfield 39, 3) := by decide +kernel
theorem dX5_countQuits_4 : decode cX5_countQuits 4 = .ok (.aload_n 0, 1) := by decide +kernel
theorem dX5_countQuits_5 : decode cX5_countQuits 5 = .ok (.getfield 9, 3) := by decide +kernel
theorem dX5_countQuits_8 : decode cX5_countQuits 8 = .ok (.invokevirtual 114, 3) := by decide +kernel
theorem dX5_countQuits_11 : decode cX5_countQuits 11 = .ok (.iconst 0, 1) := by decide +kernel
theorem dX5_countQuits_12 : decode cX5_countQuits 12 = .ok (.istore_n 1, 1) := by decide +kernel
theorem dX5_countQuits_13 : decode cX5_countQuits 13 = .ok (.iconst 1, 1) := by decide +kernel
theorem dX5_countQuits_14 : decode cX5_countQuits 14 = .ok (.istore_n 2, 1) := by decide +kernel
theorem dX5_countQuits_15 : decode cX5_countQuits 15 = .ok (.iload_n 2, 1) := by decide +kernel
theorem dX5_countQuits_16 : decode cX5_countQuits 16 = .ok (.aload_n 0, 1) := by decide +kernel
theorem dX5_countQuits_17 : decode cX5_countQuits 17 = .ok (.invokevirtual 149, 3) := by decide +kernel
theorem dX5_countQuits_20 : decode cX5_countQuits 20 = .ok (.if_icmp .gt 42, 3) := by decide +kernel
theorem dX5_countQuits_23 : decode cX5_countQuits 23 = .ok (.iconst 1, 1) := by decide +kernel
theorem dX5_countQuits_24 : decode cX5_countQuits 24 = .ok (.istore_n 3, 1) := by decide +kernel
theorem dX5_countQuits_25 : decode cX5_countQuits 25 = .ok (.iload_n 3, 1) := by decide +kernel
theorem dX5_countQuits_26 : decode cX5_countQuits 26 = .ok (.aload_n 0, 1) := by decide +kernel
theorem dX5_countQuits_27 : decode cX5_countQuits 27 = .ok (.invokevirtual 143, 3) := by decide +kernel
theorem dX5_countQuits_30 : decode cX5_countQuits 30 = .ok (.if_icmp .gt 26, 3) := by decide +kernel
theorem dX5_countQuits_33 : decode cX5_countQuits 33 = .ok (.aload_n 0, 1) := by decide +kernel
theorem dX5_countQuits_34 : decode cX5_countQuits 34 = .ok (.getfield 39, 3) := by decide +kernel
theorem dX5_countQuits_37 : decode cX5_countQuits 37 = .ok (.iload_n 2, 1) := by decide +kernel
theorem dX5_countQuits_38 : decode cX5_countQuits 38 = .ok (.iload_n 3, 1) := by decide +kernel
theorem dX5_countQuits_39 : decode cX5_countQuits 39 = .ok (.invokevirtual 133, 3) := by decide +kernel
theorem dX5_countQuits_42 : decode cX5_countQuits 42 = .ok (.lconst 0, 1) := by decide +kernel
theorem dX5_countQuits_43 : decode cX5_countQuits 43 = .ok (.lcmp, 1) := by decide +kernel
theorem dX5_countQuits_44 : decode cX5_countQuits 44 = .ok (.ifCond .ne 6, 3) := by decide +kernel
theorem dX5_countQuits_47 : decode cX5_countQuits 47 = .ok (.iinc 1 1, 3) := by decide +kernel
theorem dX5_countQuits_50 : decode cX5_countQuits 50 = .ok (.iinc 3 1, 3) := by decide +kernel
theorem dX5_countQuits_53 : decode cX5_countQuits 53 = .ok (.goto (-28), 3) := by decide +kernel
theorem dX5_countQuits_56 : decode cX5_countQuits 56 = .ok (.iinc 2 1, 3) := by decide +kernel
theorem dX5_countQuits_59 : decode cX5_countQuits 59 = .ok (.goto (-44), 3) := by decide +kernel
theorem dX5_countQuits_62 : decode cX5_countQuits 62 = .ok (.iload_n 1, 1) := by decide +kernel
theorem dX5_countQuits_63 : decode cX5_countQuits 63 = .ok (.ireturn, 1) := by decide +kernel
theorem dX5_fraction_0 : decode cX5_fraction 0 = .ok (.lload_n 1, 1) := by decide +kernel
theorem dX5_fraction_1 : decode cX5_fraction 1 = .ok (.invokestatic 255, 3) := by decide +kernel
theorem dX5_fraction_4 : decode cX5_fraction 4 = .ok (.lload_n 3, 1) := by decide +kernel
theorem dX5_fraction_5 : decode cX5_fraction 5 = .ok (.invokestatic 260, 3) := by decide +kernel
theorem dX5_fraction_8 : decode cX5_fraction 8 = .ok (.lstore 5, 2) := by decide +kernel
theorem dX5_fraction_10 : decode cX5_fraction 10 = .ok (.aload_n 0, 1) := by decide +kernel
theorem dX5_fraction_11 : decode cX5_fraction 11 = .ok (.lload_n 3, 1) := by decide +kernel
theorem dX5_fraction_12 : decode cX5_fraction 12 = .ok (.lload 5, 2) := by decide +kernel
theorem dX5_fraction_14 : decode cX5_fraction 14 = .ok (.ldiv, 1) := by decide +kernel
theorem dX5_fraction_15 : decode cX5_fraction 15 = .ok (.putfield 62, 3) := by decide +kernel
theorem dX5_fraction_18 : decode cX5_fraction 18 = .ok (.lload_n 1, 1) := by decide +kernel
theorem dX5_fraction_19 : decode cX5_fraction 19 = .ok (.lload 5, 2) := by decide +kernel
theorem dX5_fraction_21 : decode cX5_fraction 21 = .ok (.ldiv, 1) := by decide +kernel
theorem dX5_fraction_22 : decode cX5_fraction 22 = .ok (.lreturn, 1) := by decide +kernel
theorem dX5_commonDivisor_0 : decode cX5_commonDivisor 0 = .ok (.lload_n 0, 1) := by decide +kernel
theorem dX5_commonDivisor_1 : decode cX5_commonDivisor 1 = .ok (.lstore 4, 2) := by decide +kernel
theorem dX5_commonDivisor_3 : decode cX5_commonDivisor 3 = .ok (.lload_n 2, 1) := by decide +kernel
theorem dX5_commonDivisor_4 : decode cX5_commonDivisor 4 = .ok (.lstore 6, 2) := by decide +kernel
theorem dX5_commonDivisor_6 : decode cX5_commonDivisor 6 = .ok (.iconst 0, 1) := by decide +kernel
theorem dX5_commonDivisor_7 : decode cX5_commonDivisor 7 = .ok (.istore 8, 2) := by decide +kernel
theorem dX5_commonDivisor_9 : decode cX5_commonDivisor 9 = .ok (.iload 8, 2) := by decide +kernel
theorem dX5_commonDivisor_11 : decode cX5_commonDivisor 11 = .ok (.sipush 200, 3) := by decide +kernel
theorem dX5_commonDivisor_14 : decode cX5_commonDivisor 14 = .ok (.if_icmp .ge 31, 3) := by decide +kernel
theorem dX5_commonDivisor_17 : decode cX5_commonDivisor 17 = .ok (.lload 6, 2) := by decide +kernel
theorem dX5_commonDivisor_19 : decode cX5_commonDivisor 19 = .ok (.lconst 0, 1) := by decide +kernel
theorem dX5_commonDivisor_20 : decode cX5_commonDivisor 20 = .ok (.lcmp, 1) := by decide +kernel
theorem dX5_commonDivisor_21 : decode cX5_commonDivisor 21 = .ok (.ifCond .eq 24, 3) := by decide +kernel
theorem dX5_commonDivisor_24 : decode cX5_commonDivisor 24 = .ok (.lload 4, 2) := by decide +kernel
theorem dX5_commonDivisor_26 : decode cX5_commonDivisor 26 = .ok (.lload 6, 2) := by decide +kernel
theorem dX5_commonDivisor_28 : decode cX5_commonDivisor 28 = .ok (.lrem, 1) := by decide +kernel
theorem dX5_commonDivisor_29 : decode cX5_commonDivisor 29 = .ok (.lstore 9, 2) := by decide +kernel
theorem dX5_commonDivisor_31 : decode cX5_commonDivisor 31 = .ok (.lload 6, 2) := by decide +kernel
theorem dX5_commonDivisor_33 : decode cX5_commonDivisor 33 = .ok (.lstore 4, 2) := by decide +kernel
theorem dX5_commonDivisor_35 : decode cX5_commonDivisor 35 = .ok (.lload 9, 2) := by decide +kernel
theorem dX5_commonDivisor_37 : decode cX5_commonDivisor 37 = .ok (.lstore 6, 2) := by decide +kernel
theorem dX5_commonDivisor_39 : decode cX5_commonDivisor 39 = .ok (.iinc 8 1, 3) := by decide +kernel
theorem dX5_commonDivisor_42 : decode cX5_commonDivisor 42 = .ok (.goto (-33), 3) := by decide +kernel
theorem dX5_commonDivisor_45 : decode cX5_commonDivisor 45 = .ok (.lconst 1, 1) := by decide +kernel
theorem dX5_commonDivisor_46 : decode cX5_commonDivisor 46 = .ok (.lload 4, 2) := by decide +kernel
theorem dX5_commonDivisor_48 : decode cX5_commonDivisor 48 = .ok (.invokestatic 263, 3) := by decide +kernel
theorem dX5_commonDivisor_51 : decode cX5_commonDivisor 51 = .ok (.lreturn, 1) := by decide +kernel
theorem dX5_mix_0 : decode cX5_mix 0 = .ok (.ldc2_w 266, 3) := by decide +kernel
theorem dX5_mix_3 : decode cX5_mix 3 = .ok (.lload_n 0, 1) := by decide +kernel
theorem dX5_mix_4 : decode cX5_mix 4 = .ok (.lmul, 1) := by decide +kernel
theorem dX5_mix_5 : decode cX5_mix 5 = .ok (.lload_n 2, 1) := by decide +kernel
theorem dX5_mix_6 : decode cX5_mix 6 = .ok (.ladd, 1) := by decide +kernel
theorem dX5_mix_7 : decode cX5_mix 7 = .ok (.lreturn, 1) := by decide +kernel
theorem dX5_mixFraction_0 : decode cX5_mixFraction 0 = .ok (.lload_n 1, 1) := by decide +kernel
theorem dX5_mixFraction_1 : decode cX5_mixFraction 1 = .ok (.lload_n 3, 1) := by decide +kernel
theorem dX5_mixFraction_2 : decode cX5_mixFraction 2 = .ok (.invokestatic 223, 3) := by decide +kernel
theorem dX5_mixFraction_5 : decode cX5_mixFraction 5 = .ok (.aload_n 0, 1) := by decide +kernel
theorem dX5_mixFraction_6 : decode cX5_mixFraction 6 = .ok (.getfield 62, 3) := by decide +kernel
theorem dX5_mixFraction_9 : decode cX5_mixFraction 9 = .ok (.invokestatic 223, 3) := by decide +kernel
theorem dX5_mixFraction_12 : decode cX5_mixFraction 12 = .ok (.lreturn, 1) := by decide +kernel
theorem dX5_mixRankValues_0 : decode cX5_mixRankValues 0 = .ok (.lload_n 1, 1) := by decide +kernel
theorem dX5_mixRankValues_1 : decode cX5_mixRankValues 1 = .ok (.lstore_n 3, 1) := by decide +kernel
theorem dX5_mixRankValues_2 : decode cX5_mixRankValues 2 = .ok (.iconst 0, 1) := by decide +kernel
theorem dX5_mixRankValues_3 : decode cX5_mixRankValues 3 = .ok (.istore 5, 2) := by decide +kernel
theorem dX5_mixRankValues_5 : decode cX5_mixRankValues 5 = .ok (.iload 5, 2) := by decide +kernel
theorem dX5_mixRankValues_7 : decode cX5_mixRankValues 7 = .ok (.aload_n 0, 1) := by decide +kernel
theorem dX5_mixRankValues_8 : decode cX5_mixRankValues 8 = .ok (.invokevirtual 143, 3) := by decide +kernel
theorem dX5_mixRankValues_11 : decode cX5_mixRankValues 11 = .ok (.if_icmp .gt 22, 3) := by decide +kernel
theorem dX5_mixRankValues_14 : decode cX5_mixRankValues 14 = .ok (.aload_n 0, 1) := by decide +kernel
theorem dX5_mixRankValues_15 : decode cX5_mixRankValues 15 = .ok (.lload_n 3, 1) := by decide +kernel
theorem dX5_mixRankValues_16 : decode cX5_mixRankValues 16 = .ok (.aload_n 0, 1) := by decide +kernel
theorem dX5_mixRankValues_17 : decode cX5_mixRankValues 17 = .ok (.iconst 1, 1) := by decide +kernel
theorem dX5_mixRankValues_18 : decode cX5_mixRankValues 18 = .ok (.iload 5, 2) := by decide +kernel
theorem dX5_mixRankValues_20 : decode cX5_mixRankValues 20 = .ok (.invokevirtual 268, 3) := by decide +kernel
theorem dX5_mixRankValues_23 : decode cX5_mixRankValues 23 = .ok (.invokevirtual 271, 3) := by decide +kernel
theorem dX5_mixRankValues_26 : decode cX5_mixRankValues 26 = .ok (.lstore_n 3, 1) := by decide +kernel
theorem dX5_mixRankValues_27 : decode cX5_mixRankValues 27 = .ok (.iinc 5 1, 3) := by decide +kernel
theorem dX5_mixRankValues_30 : decode cX5_mixRankValues 30 = .ok (.goto (-25), 3) := by decide +kernel
theorem dX5_mixRankValues_33 : decode cX5_mixRankValues 33 = .ok (.lload_n 3, 1) := by decide +kernel
theorem dX5_mixRankValues_34 : decode cX5_mixRankValues 34 = .ok (.lreturn, 1) := by decide +kernel
theorem dX5_mixRankPolicy_0 : decode cX5_mixRankPolicy 0 = .ok (.lload_n 1, 1) := by decide +kernel
theorem dX5_mixRankPolicy_1 : decode cX5_mixRankPolicy 1 = .ok (.lstore_n 3, 1) := by decide +kernel
theorem dX5_mixRankPolicy_2 : decode cX5_mixRankPolicy 2 = .ok (.iconst 1, 1) := by decide +kernel
theorem dX5_mixRankPolicy_3 : decode cX5_mixRankPolicy 3 = .ok (.istore 5, 2) := by decide +kernel
theorem dX5_mixRankPolicy_5 : decode cX5_mixRankPolicy 5 = .ok (.iload 5, 2) := by decide +kernel
theorem dX5_mixRankPolicy_7 : decode cX5_mixRankPolicy 7 = .ok (.aload_n 0, 1) := by decide +kernel
theorem dX5_mixRankPolicy_8 : decode cX5_mixRankPolicy 8 = .ok (.invokevirtual 149, 3) := by decide +kernel
theorem dX5_mixRankPolicy_11 : decode cX5_mixRankPolicy 11 = .ok (.if_icmp .gt 41, 3) := by decide +kernel
theorem dX5_mixRankPolicy_14 : decode cX5_mixRankPolicy 14 = .ok (.iconst 1, 1) := by decide +kernel
theorem dX5_mixRankPolicy_15 : decode cX5_mixRankPolicy 15 = .ok (.istore 6, 2) := by decide +kernel
theorem dX5_mixRankPolicy_17 : decode cX5_mixRankPolicy 17 = .ok (.iload 6, 2) := by decide +kernel
theorem dX5_mixRankPolicy_19 : decode cX5_mixRankPolicy 19 = .ok (.aload_n 0, 1) := by decide +kernel
theorem dX5_mixRankPolicy_20 : decode cX5_mixRankPolicy 20 = .ok (.invokevirtual 143, 3) := by decide +kernel
theorem dX5_mixRankPolicy_23 : decode cX5_mixRankPolicy 23 = .ok (.if_icmp .gt 23, 3) := by decide +kernel
theorem dX5_mixRankPolicy_26 : decode cX5_mixRankPolicy 26 = .ok (.lload_n 3, 1) := by decide +kernel
theorem dX5_mixRankPolicy_27 : decode cX5_mixRankPolicy 27 = .ok (.aload_n 0, 1) := by decide +kernel
theorem dX5_mixRankPolicy_28 : decode cX5_mixRankPolicy 28 = .ok (.iload 5, 2) := by decide +kernel
theorem dX5_mixRankPolicy_30 : decode cX5_mixRankPolicy 30 = .ok (.iload 6, 2) := by decide +kernel
theorem dX5_mixRankPolicy_32 : decode cX5_mixRankPolicy 32 = .ok (.invokevirtual 274, 3) := by decide +kernel
theorem dX5_mixRankPolicy_35 : decode cX5_mixRankPolicy 35 = .ok (.i2l, 1) := by decide +kernel
theorem dX5_mixRankPolicy_36 : decode cX5_mixRankPolicy 36 = .ok (.invokestatic 223, 3) := by decide +kernel
theorem dX5_mixRankPolicy_39 : decode cX5_mixRankPolicy 39 = .ok (.lstore_n 3, 1) := by decide +kernel
theorem dX5_mixRankPolicy_40 : decode cX5_mixRankPolicy 40 = .ok (.iinc 6 1, 3) := by decide +kernel
theorem dX5_mixRankPolicy_43 : decode cX5_mixRankPolicy 43 = .ok (.goto (-26), 3) := by decide +kernel
theorem dX5_mixRankPolicy_46 : decode cX5_mixRankPolicy 46 = .ok (.iinc 5 1, 3) := by decide +kernel
theorem dX5_mixRankPolicy_49 : decode cX5_mixRankPolicy 49 = .ok (.goto (-44), 3) := by decide +kernel
theorem dX5_mixRankPolicy_52 : decode cX5_mixRankPolicy 52 = .ok (.iconst 0, 1) := by decide +kernel
theorem dX5_mixRankPolicy_53 : decode cX5_mixRankPolicy 53 = .ok (.istore 5, 2) := by decide +kernel
theorem dX5_mixRankPolicy_55 : decode cX5_mixRankPolicy 55 = .ok (.iload 5, 2) := by decide +kernel
theorem dX5_mixRankPolicy_57 : decode cX5_mixRankPolicy 57 = .ok (.iconst 2, 1) := by decide +kernel
theorem dX5_mixRankPolicy_58 : decode cX5_mixRankPolicy 58 = .ok (.if_icmp .gt 21, 3) := by decide +kernel
theorem dX5_mixRankPolicy_61 : decode cX5_mixRankPolicy 61 = .ok (.aload_n 0, 1) := by decide +kernel
theorem dX5_mixRankPolicy_62 : decode cX5_mixRankPolicy 62 = .ok (.lload_n 3, 1) := by decide +kernel
theorem dX5_mixRankPolicy_63 : decode cX5_mixRankPolicy 63 = .ok (.aload_n 0, 1) := by decide +kernel
theorem dX5_mixRankPolicy_64 : decode cX5_mixRankPolicy 64 = .ok (.iload 5, 2) := by decide +kernel
theorem dX5_mixRankPolicy_66 : decode cX5_mixRankPolicy 66 = .ok (.invokevirtual 277, 3) := by decide +kernel
theorem dX5_mixRankPolicy_69 : decode cX5_mixRankPolicy 69 = .ok (.invokevirtual 271, 3) := by decide +kernel
theorem dX5_mixRankPolicy_72 : decode cX5_mixRankPolicy 72 = .ok (.lstore_n 3, 1) := by decide +kernel
theorem dX5_mixRankPolicy_73 : decode cX5_mixRankPolicy 73 = .ok (.iinc 5 1, 3) := by decide +kernel
theorem dX5_mixRankPolicy_76 : decode cX5_mixRankPolicy 76 = .ok (.goto (-21), 3) := by decide +kernel
theorem dX5_mixRankPolicy_79 : decode cX5_mixRankPolicy 79 = .ok (.lload_n 3, 1) := by decide +kernel
theorem dX5_mixRankPolicy_80 : decode cX5_mixRankPolicy 80 = .ok (.aload_n 0, 1) := by decide +kernel
theorem dX5_mixRankPolicy_81 : decode cX5_mixRankPolicy 81 = .ok (.invokevirtual 281, 3) := by decide +kernel
theorem dX5_mixRankPolicy_84 : decode cX5_mixRankPolicy 84 = .ok (.i2l, 1) := by decide +kernel
theorem dX5_mixRankPolicy_85 : decode cX5_mixRankPolicy 85 = .ok (.invokestatic 223, 3) := by decide +kernel
theorem dX5_mixRankPolicy_88 : decode cX5_mixRankPolicy 88 = .ok (.lreturn, 1) := by decide +kernel
theorem dX5_mixSituations_0 : decode cX5_mixSituations 0 = .ok (.lload_n 1, 1) := by decide +kernel
theorem dX5_mixSituations_1 : decode cX5_mixSituations 1 = .ok (.lstore_n 3, 1) := by decide +kernel
theorem dX5_mixSituations_2 : decode cX5_mixSituations 2 = .ok (.iconst 0, 1) := by decide +kernel
theorem dX5_mixSituations_3 : decode cX5_mixSituations 3 = .ok (.istore 5, 2) := by decide +kernel
theorem dX5_mixSituations_5 : decode cX5_mixSituations 5 = .ok (.iload 5, 2) := by decide +kernel
theorem dX5_mixSituations_7 : decode cX5_mixSituations 7 = .ok (.aload_n 0, 1) := by decide +kernel
theorem dX5_mixSituations_8 : decode cX5_mixSituations 8 = .ok (.invokevirtual 143, 3) := by decide +kernel
theorem dX5_mixSituations_11 : decode cX5_mixSituations 11 = .ok (.if_icmp .gt 24, 3) := by decide +kernel
theorem dX5_mixSituations_14 : decode cX5_mixSituations 14 = .ok (.aload_n 0, 1) := by decide +kernel
theorem dX5_mixSituations_15 : decode cX5_mixSituations 15 = .ok (.lload_n 3, 1) := by decide +kernel
theorem dX5_mixSituations_16 : decode cX5_mixSituations 16 = .ok (.aload_n 0, 1) := by decide +kernel
theorem dX5_mixSituations_17 : decode cX5_mixSituations 17 = .ok (.iconst 1, 1) := by decide +kernel
theorem dX5_mixSituations_18 : decode cX5_mixSituations 18 = .ok (.iload 5, 2) := by decide +kernel
theorem dX5_mixSituations_20 : decode cX5_mixSituations 20 = .ok (.iconst 5, 1) := by decide +kernel
theorem dX5_mixSituations_21 : decode cX5_mixSituations 21 = .ok (.iconst 5, 1) := by decide +kernel
theorem dX5_mixSituations_22 : decode cX5_mixSituations 22 = .ok (.invokevirtual 284, 3) := by decide +kernel
theorem dX5_mixSituations_25 : decode cX5_mixSituations 25 = .ok (.invokevirtual 271, 3) := by decide +kernel
theorem dX5_mixSituations_28 : decode cX5_mixSituations 28 = .ok (.lstore_n 3, 1) := by decide +kernel
theorem dX5_mixSituations_29 : decode cX5_mixSituations 29 = .ok (.iinc 5 1, 3) := by decide +kernel
theorem dX5_mixSituations_32 : decode cX5_mixSituations 32 = .ok (.goto (-27), 3) := by decide +kernel
theorem dX5_mixSituations_35 : decode cX5_mixSituations 35 = .ok (.lload_n 3, 1) := by decide +kernel
theorem dX5_mixSituations_36 : decode cX5_mixSituations 36 = .ok (.lreturn, 1) := by decide +kernel
theorem dX5_mixValuePolicy_0 : decode cX5_mixValuePolicy 0 = .ok (.lload_n 1, 1) := by decide +kernel
theorem dX5_mixValuePolicy_1 : decode cX5_mixValuePolicy 1 = .ok (.lstore_n 3, 1) := by decide +kernel
theorem dX5_mixValuePolicy_2 : decode cX5_mixValuePolicy 2 = .ok (.iconst 1, 1) := by decide +kernel
theorem dX5_mixValuePolicy_3 : decode cX5_mixValuePolicy 3 = .ok (.istore 5, 2) := by decide +kernel
theorem dX5_mixValuePolicy_5 : decode cX5_mixValuePolicy 5 = .ok (.iload 5, 2) := by decide +kernel
theorem dX5_mixValuePolicy_7 : decode cX5_mixValuePolicy 7 = .ok (.aload_n 0, 1) := by decide +kernel
theorem dX5_mixValuePolicy_8 : decode cX5_mixValuePolicy 8 = .ok (.invokevirtual 149, 3) := by decide +kernel
theorem dX5_mixValuePolicy_11 : decode cX5_mixValuePolicy 11 = .ok (.if_icmp .gt 44, 3) := by decide +kernel
theorem dX5_mixValuePolicy_14 : decode cX5_mixValuePolicy 14 = .ok (.lload_n 3, 1) := by decide +kernel
theorem dX5_mixValuePolicy_15 : decode cX5_mixValuePolicy 15 = .ok (.aload_n 0, 1) := by decide +kernel
theorem dX5_mixValuePolicy_16 : decode cX5_mixValuePolicy 16 = .ok (.iload 5, 2) := by decide +kernel
theorem dX5_mixValuePolicy_18 : decode cX5_mixValuePolicy 18 = .ok (.aload_n 0, 1) := by decide +kernel
theorem dX5_mixValuePolicy_19 : decode cX5_mixValuePolicy 19 = .ok (.invokevirtual 143, 3) := by decide +kernel
theorem dX5_mixValuePolicy_22 : decode cX5_mixValuePolicy 22 = .ok (.iconst 0, 1) := by decide +kernel
theorem dX5_mixValuePolicy_23 : decode cX5_mixValuePolicy 23 = .ok (.iconst 4, 1) := by decide +kernel
theorem dX5_mixValuePolicy_24 : decode cX5_mixValuePolicy 24 = .ok (.invokevirtual 287, 3) := by decide +kernel
theorem dX5_mixValuePolicy_27 : decode cX5_mixValuePolicy 27 = .ok (.i2l, 1) := by decide +kernel
theorem dX5_mixValuePolicy_28 : decode cX5_mixValuePolicy 28 = .ok (.invokestatic 223, 3) := by decide +kernel
theorem dX5_mixValuePolicy_31 : decode cX5_mixValuePolicy 31 = .ok (.lstore_n 3, 1) := by decide +kernel
theorem dX5_mixValuePolicy_32 : decode cX5_mixValuePolicy 32 = .ok (.lload_n 3, 1) := by decide +kernel
theorem dX5_mixValuePolicy_33 : decode cX5_mixValuePolicy 33 = .ok (.aload_n 0, 1) := by decide +kernel
theorem dX5_mixValuePolicy_34 : decode cX5_mixValuePolicy 34 = .ok (.iload 5, 2) := by decide +kernel
theorem dX5_mixValuePolicy_36 : decode cX5_mixValuePolicy 36 = .ok (.aload_n 0, 1) := by decide +kernel
theorem dX5_mixValuePolicy_37 : decode cX5_mixValuePolicy 37 = .ok (.invokevirtual 143, 3) := by decide +kernel
theorem dX5_mixValuePolicy_40 : decode cX5_mixValuePolicy 40 = .ok (.iconst 5, 1) := by decide +kernel
theorem dX5_mixValuePolicy_41 : decode cX5_mixValuePolicy 41 = .ok (.invokevirtual 290, 3) := by decide +kernel
theorem dX5_mixValuePolicy_44 : decode cX5_mixValuePolicy 44 = .ok (.i2l, 1) := by decide +kernel
theorem dX5_mixValuePolicy_45 : decode cX5_mixValuePolicy 45 = .ok (.invokestatic 223, 3) := by decide +kernel
theorem dX5_mixValuePolicy_48 : decode cX5_mixValuePolicy 48 = .ok (.lstore_n 3, 1) := by decide +kernel
theorem dX5_mixValuePolicy_49 : decode cX5_mixValuePolicy 49 = .ok (.iinc 5 1, 3) := by decide +kernel
theorem dX5_mixValuePolicy_52 : decode cX5_mixValuePolicy 52 = .ok (.goto (-47), 3) := by decide +kernel
theorem dX5_mixValuePolicy_55 : decode cX5_mixValuePolicy 55 = .ok (.lload_n 3, 1) := by decide +kernel
theorem dX5_mixValuePolicy_56 : decode cX5_mixValuePolicy 56 = .ok (.aload_n 0, 1) := by decide +kernel
theorem dX5_mixValuePolicy_57 : decode cX5_mixValuePolicy 57 = .ok (.invokevirtual 294, 3) := by decide +kernel
theorem dX5_mixValuePolicy_60 : decode cX5_mixValuePolicy 60 = .ok (.i2l, 1) := by decide +kernel
theorem dX5_mixValuePolicy_61 : decode cX5_mixValuePolicy 61 = .ok (.invokestatic 223, 3) := by decide +kernel
theorem dX5_mixValuePolicy_64 : decode cX5_mixValuePolicy 64 = .ok (.lstore_n 3, 1) := by decide +kernel
theorem dX5_mixValuePolicy_65 : decode cX5_mixValuePolicy 65 = .ok (.aload_n 0, 1) := by decide +kernel
theorem dX5_mixValuePolicy_66 : decode cX5_mixValuePolicy 66 = .ok (.lload_n 3, 1) := by decide +kernel
theorem dX5_mixValuePolicy_67 : decode cX5_mixValuePolicy 67 = .ok (.aload_n 0, 1) := by decide +kernel
theorem dX5_mixValuePolicy_68 : decode cX5_mixValuePolicy 68 = .ok (.invokevirtual 297, 3) := by decide +kernel
theorem dX5_mixValuePolicy_71 : decode cX5_mixValuePolicy 71 = .ok (.invokevirtual 271, 3) := by decide +kernel
theorem dX5_mixValuePolicy_74 : decode cX5_mixValuePolicy 74 = .ok (.lreturn, 1) := by decide +kernel
theorem dL_law_0 : decode cL_law 0 = .ok (.new 7, 3) := by decide +kernel
theorem dL_law_3 : decode cL_law 3 = .ok (.dup, 1) := by decide +kernel
theorem dL_law_4 : decode cL_law 4 = .ok (.invokespecial 9, 3) := by decide +kernel
theorem dL_law_7 : decode cL_law 7 = .ok (.astore_n 1, 1) := by decide +kernel
theorem dL_law_8 : decode cL_law 8 = .ok (.new 10, 3) := by decide +kernel
theorem dL_law_11 : decode cL_law 11 = .ok (.dup, 1) := by decide +kernel
theorem dL_law_12 : decode cL_law 12 = .ok (.invokespecial 12, 3) := by decide +kernel
theorem dL_law_15 : decode cL_law 15 = .ok (.astore_n 2, 1) := by decide +kernel
theorem dL_law_16 : decode cL_law 16 = .ok (.iconst 0, 1) := by decide +kernel
theorem dL_law_17 : decode cL_law 17 = .ok (.istore_n 3, 1) := by decide +kernel
theorem dL_law_18 : decode cL_law 18 = .ok (.iload_n 3, 1) := by decide +kernel
theorem dL_law_19 : decode cL_law 19 = .ok (.aload_n 0, 1) := by decide +kernel
theorem dL_law_20 : decode cL_law 20 = .ok (.arraylength, 1) := by decide +kernel
theorem dL_law_21 : decode cL_law 21 = .ok (.iconst 5, 1) := by decide +kernel
theorem dL_law_22 : decode cL_law 22 = .ok (.isub, 1) := by decide +kernel
theorem dL_law_23 : decode cL_law 23 = .ok (.if_icmp .gt 1101, 3) := by decide +kernel
theorem dL_law_26 : decode cL_law 26 = .ok (.aload_n 0, 1) := by decide +kernel
theorem dL_law_27 : decode cL_law 27 = .ok (.iload_n 3, 1) := by decide +kernel
theorem dL_law_28 : decode cL_law 28 = .ok (.iaload, 1) := by decide +kernel
theorem dL_law_29 : decode cL_law 29 = .ok (.bipush 31, 2) := by decide +kernel
theorem dL_law_31 : decode cL_law 31 = .ok (.iand, 1) := by decide +kernel
theorem dL_law_32 : decode cL_law 32 = .ok (.tableswitch 1086 0 31 #[144, 167, 180, 193, 206, 239, 272, 305, 338, 381, 404, 438, 472, 515, 548, 572, 596, 609, 663, 716, 769, 822, 865, 889, 902, 916, 956, 970, 1003, 1036, 1049, 1072], 144) := by decide +kernel
theorem dL_law_176 : decode cL_law 176 = .ok (.aload_n 1, 1) := by decide +kernel
theorem dL_law_177 : decode cL_law 177 = .ok (.aload_n 0, 1) := by decide +kernel
theorem dL_law_178 : decode cL_law 178 = .ok (.iload_n 3, 1) := by decide +kernel
theorem dL_law_179 : decode cL_law 179 = .ok (.iconst 1, 1) := by decide +kernel
theorem dL_law_180 : decode cL_law 180 = .ok (.iadd, 1) := by decide +kernel
theorem dL_law_181 : decode cL_law 181 = .ok (.iaload, 1) := by decide +kernel
theorem dL_law_182 : decode cL_law 182 = .ok (.invokevirtual 13, 3) := by decide +kernel
theorem dL_law_185 : decode cL_law 185 = .ok (.aload_n 2, 1) := by decide +kernel
theorem dL_law_186 : decode cL_law 186 = .ok (.aload_n 0, 1) := by decide +kernel
theorem dL_law_187 : decode cL_law 187 = .ok (.iload_n 3, 1) := by decide +kernel
theorem dL_law_188 : decode cL_law 188 = .ok (.iconst 1, 1) := by decide +kernel
theorem dL_law_189 : decode cL_law 189 = .ok (.iadd, 1) := by decide +kernel
theorem dL_law_190 : decode cL_law 190 = .ok (.iaload, 1) := by decide +kernel
theorem dL_law_191 : decode cL_law 191 = .ok (.invokevirtual 17, 3) := by decide +kernel
theorem dL_law_194 : decode cL_law 194 = .ok (.if_icmp .eq 924, 3) := by decide +kernel
theorem dL_law_197 : decode cL_law 197 = .ok (.iconst 0, 1) := by decide +kernel
theorem dL_law_198 : decode cL_law 198 = .ok (.ireturn, 1) := by decide +kernel
theorem dL_law_199 : decode cL_law 199 = .ok (.aload_n 1, 1) := by decide +kernel
theorem dL_law_200 : decode cL_law 200 = .ok (.invokevirtual 18, 3) := by decide +kernel
theorem dL_law_203 : decode cL_law 203 = .ok (.aload_n 2, 1) := by decide +kernel
theorem dL_law_204 : decode cL_law 204 = .ok (.invokevirtual 22, 3) := by decide +kernel
theorem dL_law_207 : decode cL_law 207 = .ok (.if_icmp .eq 911, 3) := by decide +kernel
theorem dL_law_210 : decode cL_law 210 = .ok (.iconst 0, 1) := by decide +kernel
theorem dL_law_211 : decode cL_law 211 = .ok (.ireturn, 1) := by decide +kernel
theorem dL_law_212 : decode cL_law 212 = .ok (.aload_n 1, 1) := by decide +kernel
theorem dL_law_213 : decode cL_law 213 = .ok (.invokevirtual 23, 3) := by decide +kernel
theorem dL_law_216 : decode cL_law 216 = .ok (.aload_n 2, 1) := by decide +kernel
theorem dL_law_217 : decode cL_law 217 = .ok (.invokevirtual 26, 3) := by decide +kernel
theorem dL_law_220 : decode cL_law 220 = .ok (.if_icmp .eq 898, 3) := by decide +kernel
theorem dL_law_223 : decode cL_law 223 = .ok (.iconst 0, 1) := by decide +kernel
theorem dL_law_224 : decode cL_law 224 = .ok (.ireturn, 1) := by decide +kernel
theorem dL_law_225 : decode cL_law 225 = .ok (.aload_n 1, 1) := by decide +kernel
theorem dL_law_226 : decode cL_law 226 = .ok (.invokevirtual 27, 3) := by decide +kernel
theorem dL_law_229 : decode cL_law 229 = .ok (.aload_n 2, 1) := by decide +kernel
theorem dL_law_230 : decode cL_law 230 = .ok (.invokevirtual 30, 3) := by decide +kernel
theorem dL_law_233 : decode cL_law 233 = .ok (.if_icmp .eq 885, 3) := by decide +kernel
theorem dL_law_236 : decode cL_law 236 = .ok (.iconst 0, 1) := by decide +kernel
theorem dL_law_237 : decode cL_law 237 = .ok (.ireturn, 1) := by decide +kernel
theorem dL_law_238 : decode cL_law 238 = .ok (.aload_n 1, 1) := by decide +kernel
theorem dL_law_239 : decode cL_law 239 = .ok (.aload_n 0, 1) := by decide +kernel
theorem dL_law_240 : decode cL_law 240 = .ok (.iload_n 3, 1) := by decide +kernel
theorem dL_law_241 : decode cL_law 241 = .ok (.iconst 1, 1) := by decide +kernel
theorem dL_law_242 : decode cL_law 242 = .ok (.iadd, 1) := by decide +kernel
theorem dL_law_243 : decode cL_law 243 = .ok (.iaload, 1) := by decide +kernel
theorem dL_law_244 : decode cL_law 244 = .ok (.aload_n 0, 1) := by decide +kernel
theorem dL_law_245 : decode cL_law 245 = .ok (.iload_n 3, 1) := by decide +kernel
theorem dL_law_246 : decode cL_law 246 = .ok (.iconst 2, 1) := by decide +kernel
theorem dL_law_247 : decode cL_law 247 = .ok (.iadd, 1) := by decide +kernel
theorem dL_law_248 : decode cL_law 248 = .ok (.iaload, 1) := by decide +kernel
theorem dL_law_249 : decode cL_law 249 = .ok (.invokevirtual 31, 3) := by decide +kernel
theorem dL_law_252 : decode cL_law 252 = .ok (.aload_n 2, 1) := by decide +kernel
theorem dL_law_253 : decode cL_law 253 = .ok (.aload_n 0, 1) := by decide +kernel
theorem dL_law_254 : decode cL_law 254 = .ok (.iload_n 3, 1) := by decide +kernel
theorem dL_law_255 : decode cL_law 255 = .ok (.iconst 1, 1) := by decide +kernel
theorem dL_law_256 : decode cL_law 256 = .ok (.iadd, 1) := by decide +kernel
theorem dL_law_257 : decode cL_law 257 = .ok (.iaload, 1) := by decide +kernel
theorem dL_law_258 : decode cL_law 258 = .ok (.aload_n 0, 1) := by decide +kernel
theorem dL_law_259 : decode cL_law 259 = .ok (.iload_n 3, 1) := by decide +kernel
theorem dL_law_260 : decode cL_law 260 = .ok (.iconst 2, 1) := by decide +kernel
theorem dL_law_261 : decode cL_law 261 = .ok (.iadd, 1) := by decide +kernel
theorem dL_law_262 : decode cL_law 262 = .ok (.iaload, 1) := by decide +kernel
theorem dL_law_263 : decode cL_law 263 = .ok (.invokevirtual 35, 3) := by decide +kernel
theorem dL_law_266 : decode cL_law 266 = .ok (.if_icmp .eq 852, 3) := by decide +kernel
theorem dL_law_269 : decode cL_law 269 = .ok (.iconst 0, 1) := by decide +kernel
theorem dL_law_270 : decode cL_law 270 = .ok (.ireturn, 1) := by decide +kernel
theorem dL_law_271 : decode cL_law 271 = .ok (.aload_n 1, 1) := by decide +kernel
theorem dL_law_272 : decode cL_law 272 = .ok (.aload_n 0, 1) := by decide +kernel
theorem dL_law_273 : decode cL_law 273 = .ok (.iload_n 3, 1) := by decide +kernel
theorem dL_law_274 : decode cL_law 274 = .ok (.iconst 1, 1) := by decide +kernel
theorem dL_law_275 : decode cL_law 275 = .ok (.iadd, 1) := by decide +kernel
theorem dL_law_276 : decode cL_law 276 = .ok (.iaload, 1) := by decide +kernel
theorem dL_law_277 : decode cL_law 277 = .ok (.aload_n 0, 1) := by decide +kernel
theorem dL_law_278 : decode cL_law 278 = .ok (.iload_n 3, 1) := by decide +kernel
theorem dL_law_279 : decode cL_law 279 = .ok (.iconst 2, 1) := by decide +kernel
theorem dL_law_280 : decode cL_law 280 = .ok (.iadd, 1) := by decide +kernel
theorem dL_law_281 : decode cL_law 281 = .ok (.iaload, 1) := by decide +kernel
theorem dL_law_282 : decode cL_law 282 = .ok (.invokevirtual 36, 3) := by decide +kernel
theorem dL_law_285 : decode cL_law 285 = .ok (.aload_n 2, 1) := by decide +kernel
theorem dL_law_286 : decode cL_law 286 = .ok (.aload_n 0, 1) := by decide +kernel
theorem dL_law_287 : decode cL_law 287 = .ok (.iload_n 3, 1) := by decide +kernel
theorem dL_law_288 : decode cL_law 288 = .ok (.iconst 1, 1) := by decide +kernel
theorem dL_law_289 : decode cL_law 289 = .ok (.iadd, 1) := by decide +kernel
theorem dL_law_290 : decode cL_law 290 = .ok (.iaload, 1) := by decide +kernel
theorem dL_law_291 : decode cL_law 291 = .ok (.aload_n 0, 1) := by decide +kernel
theorem dL_law_292 : decode cL_law 292 = .ok (.iload_n 3, 1) := by decide +kernel
theorem dL_law_293 : decode cL_law 293 = .ok (.iconst 2, 1) := by decide +kernel
theorem dL_law_294 : decode cL_law 294 = .ok (.iadd, 1) := by decide +kernel
theorem dL_law_295 : decode cL_law 295 = .ok (.iaload, 1) := by decide +kernel
theorem dL_law_296 : decode cL_law 296 = .ok (.invokevirtual 39, 3) := by decide +kernel
theorem dL_law_299 : decode cL_law 299 = .ok (.if_icmp .eq 819, 3) := by decide +kernel
theorem dL_law_302 : decode cL_law 302 = .ok (.iconst 0, 1) := by decide +kernel
theorem dL_law_303 : decode cL_law 303 = .ok (.ireturn, 1) := by decide +kernel
theorem dL_law_304 : decode cL_law 304 = .ok (.aload_n 1, 1) := by decide +kernel
theorem dL_law_305 : decode cL_law 305 = .ok (.aload_n 0, 1) := by decide +kernel
theorem dL_law_306 : decode cL_law 306 = .ok (.iload_n 3, 1) := by decide +kernel
theorem dL_law_307 : decode cL_law 307 = .ok (.iconst 1, 1) := by decide +kernel
theorem dL_law_308 : decode cL_law 308 = .ok (.iadd, 1) := by decide +kernel
theorem dL_law_309 : decode cL_law 309 = .ok (.iaload, 1) := by decide +kernel
theorem dL_law_310 : decode cL_law 310 = .ok (.aload_n 0, 1) := by decide +kernel
theorem dL_law_311 : decode cL_law 311 = .ok (.iload_n 3, 1) := by decide +kernel
theorem dL_law_312 : decode cL_law 312 = .ok (.iconst 2, 1) := by decide +kernel
theorem dL_law_313 : decode cL_law 313 = .ok (.iadd, 1) := by decide +kernel
theorem dL_law_314 : decode cL_law 314 = .ok (.iaload, 1) := by decide +kernel
theorem dL_law_315 : decode cL_law 315 = .ok (.invokevirtual 40, 3) := by decide +kernel
theorem dL_law_318 : decode cL_law 318 = .ok (.aload_n 2, 1) := by decide +kernel
theorem dL_law_319 : decode cL_law 319 = .ok (.aload_n 0, 1) := by decide +kernel
theorem dL_law_320 : decode cL_law 320 = .ok (.iload_n 3, 1) := by decide +kernel
theorem dL_law_321 : decode cL_law 321 = .ok (.iconst 1, 1) := by decide +kernel
theorem dL_law_322 : decode cL_law 322 = .ok (.iadd, 1) := by decide +kernel
theorem dL_law_323 : decode cL_law 323 = .ok (.iaload, 1) := by decide +kernel
theorem dL_law_324 : decode cL_law 324 = .ok (.aload_n 0, 1) := by decide +kernel
theorem dL_law_325 : decode cL_law 325 = .ok (.iload_n 3, 1) := by decide +kernel
theorem dL_law_326 : decode cL_law 326 = .ok (.iconst 2, 1) := by decide +kernel
theorem dL_law_327 : decode cL_law 327 = .ok (.iadd, 1) := by decide +kernel
theorem dL_law_328 : decode cL_law 328 = .ok (.iaload, 1) := by decide +kernel
theorem dL_law_329 : decode cL_law 329 = .ok (.invokevirtual 43, 3) := by decide +kernel
theorem dL_law_332 : decode cL_law 332 = .ok (.if_icmp .eq 786, 3) := by decide +kernel
theorem dL_law_335 : decode cL_law 335 = .ok (.iconst 0, 1) := by decide +kernel
theorem dL_law_336 : decode cL_law 336 = .ok (.ireturn, 1) := by decide +kernel
theorem dL_law_337 : decode cL_law 337 = .ok (.aload_n 1, 1) := by decide +kernel
theorem dL_law_338 : decode cL_law 338 = .ok (.aload_n 0, 1) := by decide +kernel
theorem dL_law_339 : decode cL_law 339 = .ok (.iload_n 3, 1) := by decide +kernel
theorem dL_law_340 : decode cL_law 340 = .ok (.iconst 1, 1) := by decide +kernel
theorem dL_law_341 : decode cL_law 341 = .ok (.iadd, 1) := by decide +kernel
theorem dL_law_342 : decode cL_law 342 = .ok (.iaload, 1) := by decide +kernel
theorem dL_law_343 : decode cL_law 343 = .ok (.aload_n 0, 1) := by decide +kernel
theorem dL_law_344 : decode cL_law 344 = .ok (.iload_n 3, 1) := by decide +kernel
theorem dL_law_345 : decode cL_law 345 = .ok (.iconst 2, 1) := by decide +kernel
theorem dL_law_346 : decode cL_law 346 = .ok (.iadd, 1) := by decide +kernel
theorem dL_law_347 : decode cL_law 347 = .ok (.iaload, 1) := by decide +kernel
theorem dL_law_348 : decode cL_law 348 = .ok (.invokevirtual 44, 3) := by decide +kernel
theorem dL_law_351 : decode cL_law 351 = .ok (.aload_n 2, 1) := by decide +kernel
theorem dL_law_352 : decode cL_law 352 = .ok (.aload_n 0, 1) := by decide +kernel
theorem dL_law_353 : decode cL_law 353 = .ok (.iload_n 3, 1) := by decide +kernel
theorem dL_law_354 : decode cL_law 354 = .ok (.iconst 1, 1) := by decide +kernel
theorem dL_law_355 : decode cL_law 355 = .ok (.iadd, 1) := by decide +kernel
theorem dL_law_356 : decode cL_law 356 = .ok (.iaload, 1) := by decide +kernel
theorem dL_law_357 : decode cL_law 357 = .ok (.aload_n 0, 1) := by decide +kernel
theorem dL_law_358 : decode cL_law 358 = .ok (.iload_n 3, 1) := by decide +kernel
theorem dL_law_359 : decode cL_law 359 = .ok (.iconst 2, 1) := by decide +kernel
theorem dL_law_360 : decode cL_law 360 = .ok (.iadd, 1) := by decide +kernel
theorem dL_law_361 : decode cL_law 361 = .ok (.iaload, 1) := by decide +kernel
theorem dL_law_362 : decode cL_law 362 = .ok (.invokevirtual 47, 3) := by decide +kernel
theorem dL_law_365 : decode cL_law 365 = .ok (.if_icmp .eq 753, 3) := by decide +kernel
theorem dL_law_368 : decode cL_law 368 = .ok (.iconst 0, 1) := by decide +kernel
theorem dL_law_369 : decode cL_law 369 = .ok (.ireturn, 1) := by decide +kernel
theorem dL_law_370 : decode cL_law 370 = .ok (.aload_n 1, 1) := by decide +kernel
theorem dL_law_371 : decode cL_law 371 = .ok (.aload_n 0, 1) := by decide +kernel
theorem dL_law_372 : decode cL_law 372 = .ok (.iload_n 3, 1) := by decide +kernel
theorem dL_law_373 : decode cL_law 373 = .ok (.iconst 1, 1) := by decide +kernel
theorem dL_law_374 : decode cL_law 374 = .ok (.iadd, 1) := by decide +kernel
theorem dL_law_375 : decode cL_law 375 = .ok (.iaload, 1) := by decide +kernel
theorem dL_law_376 : decode cL_law 376 = .ok (.aload_n 0, 1) := by decide +kernel
theorem dL_law_377 : decode cL_law 377 = .ok (.iload_n 3, 1) := by decide +kernel
theorem dL_law_378 : decode cL_law 378 = .ok (.iconst 2, 1) := by decide +kernel
theorem dL_law_379 : decode cL_law 379 = .ok (.iadd, 1) := by decide +kernel
theorem dL_law_380 : decode cL_law 380 = .ok (.iaload, 1) := by decide +kernel
theorem dL_law_381 : decode cL_law 381 = .ok (.aload_n 0, 1) := by decide +kernel
theorem dL_law_382 : decode cL_law 382 = .ok (.iload_n 3, 1) := by decide +kernel
theorem dL_law_383 : decode cL_law 383 = .ok (.iconst 3, 1) := by decide +kernel
theorem dL_law_384 : decode cL_law 384 = .ok (.iadd, 1) := by decide +kernel
theorem dL_law_385 : decode cL_law 385 = .ok (.iaload, 1) := by decide +kernel
theorem dL_law_386 : decode cL_law 386 = .ok (.invokevirtual 48, 3) := by decide +kernel
theorem dL_law_389 : decode cL_law 389 = .ok (.aload_n 2, 1) := by decide +kernel
theorem dL_law_390 : decode cL_law 390 = .ok (.aload_n 0, 1) := by decide +kernel
theorem dL_law_391 : decode cL_law 391 = .ok (.iload_n 3, 1) := by decide +kernel
theorem dL_law_392 : decode cL_law 392 = .ok (.iconst 1, 1) := by decide +kernel
theorem dL_law_393 : decode cL_law 393 = .ok (.iadd, 1) := by decide +kernel
theorem dL_law_394 : decode cL_law 394 = .ok (.iaload, 1) := by decide +kernel
theorem dL_law_395 : decode cL_law 395 = .ok (.aload_n 0, 1) := by decide +kernel
theorem dL_law_396 : decode cL_law 396 = .ok (.iload_n 3, 1) := by decide +kernel
theorem dL_law_397 : decode cL_law 397 = .ok (.iconst 2, 1) := by decide +kernel
theorem dL_law_398 : decode cL_law 398 = .ok (.iadd, 1) := by decide +kernel
theorem dL_law_399 : decode cL_law 399 = .ok (.iaload, 1) := by decide +kernel
theorem dL_law_400 : decode cL_law 400 = .ok (.aload_n 0, 1) := by decide +kernel
theorem dL_law_401 : decode cL_law 401 = .ok (.iload_n 3, 1) := by decide +kernel
theorem dL_law_402 : decode cL_law 402 = .ok (.iconst 3, 1) := by decide +kernel
theorem dL_law_403 : decode cL_law 403 = .ok (.iadd, 1) := by decide +kernel
theorem dL_law_404 : decode cL_law 404 = .ok (.iaload, 1) := by decide +kernel
theorem dL_law_405 : decode cL_law 405 = .ok (.invokevirtual 52, 3) := by decide +kernel
theorem dL_law_408 : decode cL_law 408 = .ok (.if_icmp .eq 710, 3) := by decide +kernel
theorem dL_law_411 : decode cL_law 411 = .ok (.iconst 0, 1) := by decide +kernel
theorem dL_law_412 : decode cL_law 412 = .ok (.ireturn, 1) := by decide +kernel
theorem dL_law_413 : decode cL_law 413 = .ok (.aload_n 1, 1) := by decide +kernel
theorem dL_law_414 : decode cL_law 414 = .ok (.aload_n 0, 1) := by decide +kernel
theorem dL_law_415 : decode cL_law 415 = .ok (.iload_n 3, 1) := by decide +kernel
theorem dL_law_416 : decode cL_law 416 = .ok (.iconst 1, 1) := by decide +kernel
theorem dL_law_417 : decode cL_law 417 = .ok (.iadd, 1) := by decide +kernel
theorem dL_law_418 : decode cL_law 418 = .ok (.iaload, 1) := by decide +kernel
theorem dL_law_419 : decode cL_law 419 = .ok (.invokevirtual 53, 3) := by decide +kernel
theorem dL_law_422 : decode cL_law 422 = .ok (.aload_n 2, 1) := by decide +kernel
theorem dL_law_423 : decode cL_law 423 = .ok (.aload_n 0, 1) := by decide +kernel
theorem dL_law_424 : decode cL_law 424 = .ok (.iload_n 3, 1) := by decide +kernel
theorem dL_law_425 : decode cL_law 425 = .ok (.iconst 1, 1) := by decide +kernel
theorem dL_law_426 : decode cL_law 426 = .ok (.iadd, 1) := by decide +kernel
theorem dL_law_427 : decode cL_law 427 = .ok (.iaload, 1) := by decide +kernel
theorem dL_law_428 : decode cL_law 428 = .ok (.invokevirtual 56, 3) := by decide +kernel
theorem dL_law_431 : decode cL_law 431 = .ok (.if_icmp .eq 687, 3) := by decide +kernel
theorem dL_law_434 : decode cL_law 434 = .ok (.iconst 0, 1) := by decide +kernel
theorem dL_law_435 : decode cL_law 435 = .ok (.ireturn, 1) := by decide +kernel
theorem dL_law_436 : decode cL_law 436 = .ok (.aload_n 1, 1) := by decide +kernel
theorem dL_law_437 : decode cL_law 437 = .ok (.aload_n 0, 1) := by decide +kernel
theorem dL_law_438 : decode cL_law 438 = .ok (.iload_n 3, 1) := by decide +kernel
theorem dL_law_439 : decode cL_law 439 = .ok (.iconst 1, 1) := by decide +kernel
theorem dL_law_440 : decode cL_law 440 = .ok (.iadd, 1) := by decide +kernel
theorem dL_law_441 : decode cL_law 441 = .ok (.iaload, 1) := by decide +kernel
theorem dL_law_442 : decode cL_law 442 = .ok (.aload_n 0, 1) := by decide +kernel
theorem dL_law_443 : decode cL_law 443 = .ok (.iload_n 3, 1) := by decide +kernel
theorem dL_law_444 : decode cL_law 444 = .ok (.iconst 2, 1) := by decide +kernel
theorem dL_law_445 : decode cL_law 445 = .ok (.iadd, 1) := by decide +kernel
theorem dL_law_446 : decode cL_law 446 = .ok (.iaload, 1) := by decide +kernel
theorem dL_law_447 : decode cL_law 447 = .ok (.invokevirtual 57, 3) := by decide +kernel
theorem dL_law_450 : decode cL_law 450 = .ok (.aload_n 2, 1) := by decide +kernel
theorem dL_law_451 : decode cL_law 451 = .ok (.aload_n 0, 1) := by decide +kernel
theorem dL_law_452 : decode cL_law 452 = .ok (.iload_n 3, 1) := by decide +kernel
theorem dL_law_453 : decode cL_law 453 = .ok (.iconst 1, 1) := by decide +kernel
theorem dL_law_454 : decode cL_law 454 = .ok (.iadd, 1) := by decide +kernel
theorem dL_law_455 : decode cL_law 455 = .ok (.iaload, 1) := by decide +kernel
theorem dL_law_456 : decode cL_law 456 = .ok (.aload_n 0, 1) := by decide +kernel
theorem dL_law_457 : decode cL_law 457 = .ok (.iload_n 3, 1) := by decide +kernel
theorem dL_law_458 : decode cL_law 458 = .ok (.iconst 2, 1) := by decide +kernel
theorem dL_law_459 : decode cL_law 459 = .ok (.iadd, 1) := by decide +kernel
theorem dL_law_460 : decode cL_law 460 = .ok (.iaload, 1) := by decide +kernel
theorem dL_law_461 : decode cL_law 461 = .ok (.invokevirtual 61, 3) := by decide +kernel
theorem dL_law_464 : decode cL_law 464 = .ok (.lcmp, 1) := by decide +kernel
theorem dL_law_465 : decode cL_law 465 = .ok (.ifCond .eq 653, 3) := by decide +kernel
theorem dL_law_468 : decode cL_law 468 = .ok (.iconst 0, 1) := by decide +kernel
theorem dL_law_469 : decode cL_law 469 = .ok (.ireturn, 1) := by decide +kernel
theorem dL_law_470 : decode cL_law 470 = .ok (.aload_n 1, 1) := by decide +kernel
theorem dL_law_471 : decode cL_law 471 = .ok (.aload_n 0, 1) := by decide +kernel
theorem dL_law_472 : decode cL_law 472 = .ok (.iload_n 3, 1) := by decide +kernel
theorem dL_law_473 : decode cL_law 473 = .ok (.iconst 1, 1) := by decide +kernel
theorem dL_law_474 : decode cL_law 474 = .ok (.iadd, 1) := by decide +kernel
theorem dL_law_475 : decode cL_law 475 = .ok (.iaload, 1) := by decide +kernel
theorem dL_law_476 : decode cL_law 476 = .ok (.aload_n 0, 1) := by decide +kernel
theorem dL_law_477 : decode cL_law 477 = .ok (.iload_n 3, 1) := by decide +kernel
theorem dL_law_478 : decode cL_law 478 = .ok (.iconst 2, 1) := by decide +kernel
theorem dL_law_479 : decode cL_law 479 = .ok (.iadd, 1) := by decide +kernel
theorem dL_law_480 : decode cL_law 480 = .ok (.iaload, 1) := by decide +kernel
theorem dL_law_481 : decode cL_law 481 = .ok (.invokevirtual 62, 3) := by decide +kernel
theorem dL_law_484 : decode cL_law 484 = .ok (.aload_n 2, 1) := by decide +kernel
theorem dL_law_485 : decode cL_law 485 = .ok (.aload_n 0, 1) := by decide +kernel
theorem dL_law_486 : decode cL_law 486 = .ok (.iload_n 3, 1) := by decide +kernel
theorem dL_law_487 : decode cL_law 487 = .ok (.iconst 1, 1) := by decide +kernel
theorem dL_law_488 : decode cL_law 488 = .ok (.iadd, 1) := by decide +kernel
theorem dL_law_489 : decode cL_law 489 = .ok (.iaload, 1) := by decide +kernel
theorem dL_law_490 : decode cL_law 490 = .ok (.aload_n 0, 1) := by decide +kernel
theorem dL_law_491 : decode cL_law 491 = .ok (.iload_n 3, 1) := by decide +kernel
theorem dL_law_492 : decode cL_law 492 = .ok (.iconst 2, 1) := by decide +kernel
theorem dL_law_493 : decode cL_law 493 = .ok (.iadd, 1) := by decide +kernel
theorem dL_law_494 : decode cL_law 494 = .ok (.iaload, 1) := by decide +kernel
theorem dL_law_495 : decode cL_law 495 = .ok (.invokevirtual 65, 3) := by decide +kernel
theorem dL_law_498 : decode cL_law 498 = .ok (.lcmp, 1) := by decide +kernel
theorem dL_law_499 : decode cL_law 499 = .ok (.ifCond .eq 619, 3) := by decide +kernel
theorem dL_law_502 : decode cL_law 502 = .ok (.iconst 0, 1) := by decide +kernel
theorem dL_law_503 : decode cL_law 503 = .ok (.ireturn, 1) := by decide +kernel
theorem dL_law_504 : decode cL_law 504 = .ok (.aload_n 1, 1) := by decide +kernel
theorem dL_law_505 : decode cL_law 505 = .ok (.aload_n 0, 1) := by decide +kernel
theorem dL_law_506 : decode cL_law 506 = .ok (.iload_n 3, 1) := by decide +kernel
theorem dL_law_507 : decode cL_law 507 = .ok (.iconst 1, 1) := by decide +kernel
theorem dL_law_508 : decode cL_law 508 = .ok (.iadd, 1) := by decide +kernel
theorem dL_law_509 : decode cL_law 509 = .ok (.iaload, 1) := by decide +kernel
theorem dL_law_510 : decode cL_law 510 = .ok (.aload_n 0, 1) := by decide +kernel
theorem dL_law_511 : decode cL_law 511 = .ok (.iload_n 3, 1) := by decide +kernel
theorem dL_law_512 : decode cL_law 512 = .ok (.iconst 2, 1) := by decide +kernel
theorem dL_law_513 : decode cL_law 513 = .ok (.iadd, 1) := by decide +kernel
theorem dL_law_514 : decode cL_law 514 = .ok (.iaload, 1) := by decide +kernel
theorem dL_law_515 : decode cL_law 515 = .ok (.aload_n 0, 1) := by decide +kernel
theorem dL_law_516 : decode cL_law 516 = .ok (.iload_n 3, 1) := by decide +kernel
theorem dL_law_517 : decode cL_law 517 = .ok (.iconst 3, 1) := by decide +kernel
theorem dL_law_518 : decode cL_law 518 = .ok (.iadd, 1) := by decide +kernel
theorem dL_law_519 : decode cL_law 519 = .ok (.iaload, 1) := by decide +kernel
theorem dL_law_520 : decode cL_law 520 = .ok (.invokevirtual 66, 3) := by decide +kernel
theorem dL_law_523 : decode cL_law 523 = .ok (.aload_n 2, 1) := by decide +kernel
theorem dL_law_524 : decode cL_law 524 = .ok (.aload_n 0, 1) := by decide +kernel
theorem dL_law_525 : decode cL_law 525 = .ok (.iload_n 3, 1) := by decide +kernel
theorem dL_law_526 : decode cL_law 526 = .ok (.iconst 1, 1) := by decide +kernel
theorem dL_law_527 : decode cL_law 527 = .ok (.iadd, 1) := by decide +kernel
theorem dL_law_528 : decode cL_law 528 = .ok (.iaload, 1) := by decide +kernel
theorem dL_law_529 : decode cL_law 529 = .ok (.aload_n 0, 1) := by decide +kernel
theorem dL_law_530 : decode cL_law 530 = .ok (.iload_n 3, 1) := by decide +kernel
theorem dL_law_531 : decode cL_law 531 = .ok (.iconst 2, 1) := by decide +kernel
theorem dL_law_532 : decode cL_law 532 = .ok (.iadd, 1) := by decide +kernel
theorem dL_law_533 : decode cL_law 533 = .ok (.iaload, 1) := by decide +kernel
theorem dL_law_534 : decode cL_law 534 = .ok (.aload_n 0, 1) := by decide +kernel
theorem dL_law_535 : decode cL_law 535 = .ok (.iload_n 3, 1) := by decide +kernel
theorem dL_law_536 : decode cL_law 536 = .ok (.iconst 3, 1) := by decide +kernel
theorem dL_law_537 : decode cL_law 537 = .ok (.iadd, 1) := by decide +kernel
theorem dL_law_538 : decode cL_law 538 = .ok (.iaload, 1) := by decide +kernel
theorem dL_law_539 : decode cL_law 539 = .ok (.invokevirtual 69, 3) := by decide +kernel
theorem dL_law_542 : decode cL_law 542 = .ok (.if_icmp .eq 576, 3) := by decide +kernel
theorem dL_law_545 : decode cL_law 545 = .ok (.iconst 0, 1) := by decide +kernel
theorem dL_law_546 : decode cL_law 546 = .ok (.ireturn, 1) := by decide +kernel
theorem dL_law_547 : decode cL_law 547 = .ok (.aload_n 1, 1) := by decide +kernel
theorem dL_law_548 : decode cL_law 548 = .ok (.aload_n 0, 1) := by decide +kernel
theorem dL_law_549 : decode cL_law 549 = .ok (.iload_n 3, 1) := by decide +kernel
theorem dL_law_550 : decode cL_law 550 = .ok (.iconst 1, 1) := by decide +kernel
theorem dL_law_551 : decode cL_law 551 = .ok (.iadd, 1) := by decide +kernel
theorem dL_law_552 : decode cL_law 552 = .ok (.iaload, 1) := by decide +kernel
theorem dL_law_553 : decode cL_law 553 = .ok (.aload_n 0, 1) := by decide +kernel
theorem dL_law_554 : decode cL_law 554 = .ok (.iload_n 3, 1) := by decide +kernel
theorem dL_law_555 : decode cL_law 555 = .ok (.iconst 2, 1) := by decide +kernel
theorem dL_law_556 : decode cL_law 556 = .ok (.iadd, 1) := by decide +kernel
theorem dL_law_557 : decode cL_law 557 = .ok (.iaload, 1) := by decide +kernel
theorem dL_law_558 : decode cL_law 558 = .ok (.invokevirtual 70, 3) := by decide +kernel
theorem dL_law_561 : decode cL_law 561 = .ok (.aload_n 2, 1) := by decide +kernel
theorem dL_law_562 : decode cL_law 562 = .ok (.aload_n 0, 1) := by decide +kernel
theorem dL_law_563 : decode cL_law 563 = .ok (.iload_n 3, 1) := by decide +kernel
theorem dL_law_564 : decode cL_law 564 = .ok (.iconst 1, 1) := by decide +kernel
theorem dL_law_565 : decode cL_law 565 = .ok (.iadd, 1) := by decide +kernel
theorem dL_law_566 : decode cL_law 566 = .ok (.iaload, 1) := by decide +kernel
theorem dL_law_567 : decode cL_law 567 = .ok (.aload_n 0, 1) := by decide +kernel
theorem dL_law_568 : decode cL_law 568 = .ok (.iload_n 3, 1) := by decide +kernel
theorem dL_law_569 : decode cL_law 569 = .ok (.iconst 2, 1) := by decide +kernel
theorem dL_law_570 : decode cL_law 570 = .ok (.iadd, 1) := by decide +kernel
theorem dL_law_571 : decode cL_law 571 = .ok (.iaload, 1) := by decide +kernel
theorem dL_law_572 : decode cL_law 572 = .ok (.invokevirtual 73, 3) := by decide +kernel
theorem dL_law_575 : decode cL_law 575 = .ok (.if_icmp .eq 543, 3) := by decide +kernel
theorem dL_law_578 : decode cL_law 578 = .ok (.iconst 0, 1) := by decide +kernel
theorem dL_law_579 : decode cL_law 579 = .ok (.ireturn, 1) := by decide +kernel
theorem dL_law_580 : decode cL_law 580 = .ok (.aload_n 1, 1) := by decide +kernel
theorem dL_law_581 : decode cL_law 581 = .ok (.aload_n 0, 1) := by decide +kernel
theorem dL_law_582 : decode cL_law 582 = .ok (.iload_n 3, 1) := by decide +kernel
theorem dL_law_583 : decode cL_law 583 = .ok (.iconst 1, 1) := by decide +kernel
theorem dL_law_584 : decode cL_law 584 = .ok (.iadd, 1) := by decide +kernel
theorem dL_law_585 : decode cL_law 585 = .ok (.iaload, 1) := by decide +kernel
theorem dL_law_586 : decode cL_law 586 = .ok (.invokevirtual 74, 3) := by decide +kernel
theorem dL_law_589 : decode cL_law 589 = .ok (.aload_n 2, 1) := by decide +kernel
theorem dL_law_590 : decode cL_law 590 = .ok (.aload_n 0, 1) := by decide +kernel
theorem dL_law_591 : decode cL_law 591 = .ok (.iload_n 3, 1) := by decide +kernel
theorem dL_law_592 : decode cL_law 592 = .ok (.iconst 1, 1) := by decide +kernel
theorem dL_law_593 : decode cL_law 593 = .ok (.iadd, 1) := by decide +kernel
theorem dL_law_594 : decode cL_law 594 = .ok (.iaload, 1) := by decide +kernel
theorem dL_law_595 : decode cL_law 595 = .ok (.invokevirtual 78, 3) := by decide +kernel
theorem dL_law_598 : decode cL_law 598 = .ok (.lcmp, 1) := by decide +kernel
theorem dL_law_599 : decode cL_law 599 = .ok (.ifCond .eq 519, 3) := by decide +kernel
theorem dL_law_602 : decode cL_law 602 = .ok (.iconst 0, 1) := by decide +kernel
theorem dL_law_603 : decode cL_law 603 = .ok (.ireturn, 1) := by decide +kernel
theorem dL_law_604 : decode cL_law 604 = .ok (.aload_n 1, 1) := by decide +kernel
theorem dL_law_605 : decode cL_law 605 = .ok (.aload_n 0, 1) := by decide +kernel
theorem dL_law_606 : decode cL_law 606 = .ok (.iload_n 3, 1) := by decide +kernel
theorem dL_law_607 : decode cL_law 607 = .ok (.iconst 1, 1) := by decide +kernel
theorem dL_law_608 : decode cL_law 608 = .ok (.iadd, 1) := by decide +kernel
theorem dL_law_609 : decode cL_law 609 = .ok (.iaload, 1) := by decide +kernel
theorem dL_law_610 : decode cL_law 610 = .ok (.invokevirtual 79, 3) := by decide +kernel
theorem dL_law_613 : decode cL_law 613 = .ok (.aload_n 2, 1) := by decide +kernel
theorem dL_law_614 : decode cL_law 614 = .ok (.aload_n 0, 1) := by decide +kernel
theorem dL_law_615 : decode cL_law 615 = .ok (.iload_n 3, 1) := by decide +kernel
theorem dL_law_616 : decode cL_law 616 = .ok (.iconst 1, 1) := by decide +kernel
theorem dL_law_617 : decode cL_law 617 = .ok (.iadd, 1) := by decide +kernel
theorem dL_law_618 : decode cL_law 618 = .ok (.iaload, 1) := by decide +kernel
theorem dL_law_619 : decode cL_law 619 = .ok (.invokevirtual 82, 3) := by decide +kernel
theorem dL_law_622 : decode cL_law 622 = .ok (.lcmp, 1) := by decide +kernel
theorem dL_law_623 : decode cL_law 623 = .ok (.ifCond .eq 495, 3) := by decide +kernel
theorem dL_law_626 : decode cL_law 626 = .ok (.iconst 0, 1) := by decide +kernel
theorem dL_law_627 : decode cL_law 627 = .ok (.ireturn, 1) := by decide +kernel
theorem dL_law_628 : decode cL_law 628 = .ok (.aload_n 1, 1) := by decide +kernel
theorem dL_law_629 : decode cL_law 629 = .ok (.invokevirtual 83, 3) := by decide +kernel
theorem dL_law_632 : decode cL_law 632 = .ok (.aload_n 2, 1) := by decide +kernel
theorem dL_law_633 : decode cL_law 633 = .ok (.invokevirtual 86, 3) := by decide +kernel
theorem dL_law_636 : decode cL_law 636 = .ok (.if_icmp .eq 482, 3) := by decide +kernel
theorem dL_law_639 : decode cL_law 639 = .ok (.iconst 0, 1) := by decide +kernel
theorem dL_law_640 : decode cL_law 640 = .ok (.ireturn, 1) := by decide +kernel
theorem dL_law_641 : decode cL_law 641 = .ok (.aload_n 1, 1) := by decide +kernel
theorem dL_law_642 : decode cL_law 642 = .ok (.aload_n 0, 1) := by decide +kernel
theorem dL_law_643 : decode cL_law 643 = .ok (.iload_n 3, 1) := by decide +kernel
theorem dL_law_644 : decode cL_law 644 = .ok (.iconst 1, 1) := by decide +kernel
theorem dL_law_645 : decode cL_law 645 = .ok (.iadd, 1) := by decide +kernel
theorem dL_law_646 : decode cL_law 646 = .ok (.iaload, 1) := by decide +kernel
theorem dL_law_647 : decode cL_law 647 = .ok (.aload_n 0, 1) := by decide +kernel
theorem dL_law_648 : decode cL_law 648 = .ok (.iload_n 3, 1) := by decide +kernel
theorem dL_law_649 : decode cL_law 649 = .ok (.iconst 2, 1) := by decide +kernel
theorem dL_law_650 : decode cL_law 650 = .ok (.iadd, 1) := by decide +kernel
theorem dL_law_651 : decode cL_law 651 = .ok (.iaload, 1) := by decide +kernel
theorem dL_law_652 : decode cL_law 652 = .ok (.aload_n 0, 1) := by decide +kernel
theorem dL_law_653 : decode cL_law 653 = .ok (.iload_n 3, 1) := by decide +kernel
theorem dL_law_654 : decode cL_law 654 = .ok (.iconst 3, 1) := by decide +kernel
theorem dL_law_655 : decode cL_law 655 = .ok (.iadd, 1) := by decide +kernel
theorem dL_law_656 : decode cL_law 656 = .ok (.iaload, 1) := by decide +kernel
theorem dL_law_657 : decode cL_law 657 = .ok (.aload_n 0, 1) := by decide +kernel
theorem dL_law_658 : decode cL_law 658 = .ok (.iload_n 3, 1) := by decide +kernel
theorem dL_law_659 : decode cL_law 659 = .ok (.iconst 4, 1) := by decide +kernel
theorem dL_law_660 : decode cL_law 660 = .ok (.iadd, 1) := by decide +kernel
theorem dL_law_661 : decode cL_law 661 = .ok (.iaload, 1) := by decide +kernel
theorem dL_law_662 : decode cL_law 662 = .ok (.invokevirtual 87, 3) := by decide +kernel
theorem dL_law_665 : decode cL_law 665 = .ok (.aload_n 2, 1) := by decide +kernel
theorem dL_law_666 : decode cL_law 666 = .ok (.aload_n 0, 1) := by decide +kernel
theorem dL_law_667 : decode cL_law 667 = .ok (.iload_n 3, 1) := by decide +kernel
theorem dL_law_668 : decode cL_law 668 = .ok (.iconst 1, 1) := by decide +kernel
theorem dL_law_669 : decode cL_law 669 = .ok (.iadd, 1) := by decide +kernel
theorem dL_law_670 : decode cL_law 670 = .ok (.iaload, 1) := by decide +kernel
theorem dL_law_671 : decode cL_law 671 = .ok (.aload_n 0, 1) := by decide +kernel
theorem dL_law_672 : decode cL_law 672 = .ok (.iload_n 3, 1) := by decide +kernel
theorem dL_law_673 : decode cL_law 673 = .ok (.iconst 2, 1) := by decide +kernel
theorem dL_law_674 : decode cL_law 674 = .ok (.iadd, 1) := by decide +kernel
theorem dL_law_675 : decode cL_law 675 = .ok (.iaload, 1) := by decide +kernel
theorem dL_law_676 : decode cL_law 676 = .ok (.aload_n 0, 1) := by decide +kernel
theorem dL_law_677 : decode cL_law 677 = .ok (.iload_n 3, 1) := by decide +kernel
theorem dL_law_678 : decode cL_law 678 = .ok (.iconst 3, 1) := by decide +kernel
theorem dL_law_679 : decode cL_law 679 = .ok (.iadd, 1) := by decide +kernel
theorem dL_law_680 : decode cL_law 680 = .ok (.iaload, 1) := by decide +kernel
theorem dL_law_681 : decode cL_law 681 = .ok (.aload_n 0, 1) := by decide +kernel
theorem dL_law_682 : decode cL_law 682 = .ok (.iload_n 3, 1) := by decide +kernel
theorem dL_law_683 : decode cL_law 683 = .ok (.iconst 4, 1) := by decide +kernel
theorem dL_law_684 : decode cL_law 684 = .ok (.iadd, 1) := by decide +kernel
theorem dL_law_685 : decode cL_law 685 = .ok (.iaload, 1) := by decide +kernel
theorem dL_law_686 : decode cL_law 686 = .ok (.invokevirtual 91, 3) := by decide +kernel
theorem dL_law_689 : decode cL_law 689 = .ok (.lcmp, 1) := by decide +kernel
theorem dL_law_690 : decode cL_law 690 = .ok (.ifCond .eq 428, 3) := by decide +kernel
theorem dL_law_693 : decode cL_law 693 = .ok (.iconst 0, 1) := by decide +kernel
theorem dL_law_694 : decode cL_law 694 = .ok (.ireturn, 1) := by decide +kernel
theorem dL_law_695 : decode cL_law 695 = .ok (.aload_n 1, 1) := by decide +kernel
theorem dL_law_696 : decode cL_law 696 = .ok (.aload_n 0, 1) := by decide +kernel
theorem dL_law_697 : decode cL_law 697 = .ok (.iload_n 3, 1) := by decide +kernel
theorem dL_law_698 : decode cL_law 698 = .ok (.iconst 1, 1) := by decide +kernel
theorem dL_law_699 : decode cL_law 699 = .ok (.iadd, 1) := by decide +kernel
theorem dL_law_700 : decode cL_law 700 = .ok (.iaload, 1) := by decide +kernel
theorem dL_law_701 : decode cL_law 701 = .ok (.aload_n 0, 1) := by decide +kernel
theorem dL_law_702 : decode cL_law 702 = .ok (.iload_n 3, 1) := by decide +kernel
theorem dL_law_703 : decode cL_law 703 = .ok (.iconst 2, 1) := by decide +kernel
theorem dL_law_704 : decode cL_law 704 = .ok (.iadd, 1) := by decide +kernel
theorem dL_law_705 : decode cL_law 705 = .ok (.iaload, 1) := by decide +kernel
theorem dL_law_706 : decode cL_law 706 = .ok (.aload_n 0, 1) := by decide +kernel
theorem dL_law_707 : decode cL_law 707 = .ok (.iload_n 3, 1) := by decide +kernel
theorem dL_law_708 : decode cL_law 708 = .ok (.iconst 3, 1) := by decide +kernel
theorem dL_law_709 : decode cL_law 709 = .ok (.iadd, 1) := by decide +kernel
theorem dL_law_710 : decode cL_law 710 = .ok (.iaload, 1) := by decide +kernel
theorem dL_law_711 : decode cL_law 711 = .ok (.aload_n 0, 1) := by decide +kernel
theorem dL_law_712 : decode cL_law 712 = .ok (.iload_n 3, 1) := by decide +kernel
theorem dL_law_713 : decode cL_law 713 = .ok (.iconst 4, 1) := by decide +kernel
theorem dL_law_714 : decode cL_law 714 = .ok (.iadd, 1) := by decide +kernel
theorem dL_law_715 : decode cL_law 715 = .ok (.iaload, 1) := by decide +kernel
theorem dL_law_716 : decode cL_law 716 = .ok (.invokevirtual 92, 3) := by decide +kernel
theorem dL_law_719 : decode cL_law 719 = .ok (.aload_n 2, 1) := by decide +kernel
theorem dL_law_720 : decode cL_law 720 = .ok (.aload_n 0, 1) := by decide +kernel
theorem dL_law_721 : decode cL_law 721 = .ok (.iload_n 3, 1) := by decide +kernel
theorem dL_law_722 : decode cL_law 722 = .ok (.iconst 1, 1) := by decide +kernel
theorem dL_law_723 : decode cL_law 723 = .ok (.iadd, 1) := by decide +kernel
theorem dL_law_724 : decode cL_law 724 = .ok (.iaload, 1) := by decide +kernel
theorem dL_law_725 : decode cL_law 725 = .ok (.aload_n 0, 1) := by decide +kernel
theorem dL_law_726 : decode cL_law 726 = .ok (.iload_n 3, 1) := by decide +kernel
theorem dL_law_727 : decode cL_law 727 = .ok (.iconst 2, 1) := by decide +kernel
theorem dL_law_728 : decode cL_law 728 = .ok (.iadd, 1) := by decide +kernel
theorem dL_law_729 : decode cL_law 729 = .ok (.iaload, 1) := by decide +kernel
theorem dL_law_730 : decode cL_law 730 = .ok (.aload_n 0, 1) := by decide +kernel
theorem dL_law_731 : decode cL_law 731 = .ok (.iload_n 3, 1) := by decide +kernel
theorem dL_law_732 : decode cL_law 732 = .ok (.iconst 3, 1) := by decide +kernel
theorem dL_law_733 : decode cL_law 733 = .ok (.iadd, 1) := by decide +kernel
theorem dL_law_734 : decode cL_law 734 = .ok (.iaload, 1) := by decide +kernel
theorem dL_law_735 : decode cL_law 735 = .ok (.aload_n 0, 1) := by decide +kernel
theorem dL_law_736 : decode cL_law 736 = .ok (.iload_n 3, 1) := by decide +kernel
theorem dL_law_737 : decode cL_law 737 = .ok (.iconst 4, 1) := by decide +kernel
theorem dL_law_738 : decode cL_law 738 = .ok (.iadd, 1) := by decide +kernel
theorem dL_law_739 : decode cL_law 739 = .ok (.iaload, 1) := by decide +kernel
theorem dL_law_740 : decode cL_law 740 = .ok (.invokevirtual 96, 3) := by decide +kernel
theorem dL_law_743 : decode cL_law 743 = .ok (.if_icmp .eq 375, 3) := by decide +kernel
theorem dL_law_746 : decode cL_law 746 = .ok (.iconst 0, 1) := by decide +kernel
theorem dL_law_747 : decode cL_law 747 = .ok (.ireturn, 1) := by decide +kernel
theorem dL_law_748 : decode cL_law 748 = .ok (.aload_n 1, 1) := by decide +kernel
theorem dL_law_749 : decode cL_law 749 = .ok (.aload_n 0, 1) := by decide +kernel
theorem dL_law_750 : decode cL_law 750 = .ok (.iload_n 3, 1) := by decide +kernel
theorem dL_law_751 : decode cL_law 751 = .ok (.iconst 1, 1) := by decide +kernel
theorem dL_law_752 : decode cL_law 752 = .ok (.iadd, 1) := by decide +kernel
theorem dL_law_753 : decode cL_law 753 = .ok (.iaload, 1) := by decide +kernel
theorem dL_law_754 : decode cL_law 754 = .ok (.aload_n 0, 1) := by decide +kernel
theorem dL_law_755 : decode cL_law 755 = .ok (.iload_n 3, 1) := by decide +kernel
theorem dL_law_756 : decode cL_law 756 = .ok (.iconst 2, 1) := by decide +kernel
theorem dL_law_757 : decode cL_law 757 = .ok (.iadd, 1) := by decide +kernel
theorem dL_law_758 : decode cL_law 758 = .ok (.iaload, 1) := by decide +kernel
theorem dL_law_759 : decode cL_law 759 = .ok (.aload_n 0, 1) := by decide +kernel
theorem dL_law_760 : decode cL_law 760 = .ok (.iload_n 3, 1) := by decide +kernel
theorem dL_law_761 : decode cL_law 761 = .ok (.iconst 3, 1) := by decide +kernel
theorem dL_law_762 : decode cL_law 762 = .ok (.iadd, 1) := by decide +kernel
theorem dL_law_763 : decode cL_law 763 = .ok (.iaload, 1) := by decide +kernel
theorem dL_law_764 : decode cL_law 764 = .ok (.aload_n 0, 1) := by decide +kernel
theorem dL_law_765 : decode cL_law 765 = .ok (.iload_n 3, 1) := by decide +kernel
theorem dL_law_766 : decode cL_law 766 = .ok (.iconst 4, 1) := by decide +kernel
theorem dL_law_767 : decode cL_law 767 = .ok (.iadd, 1) := by decide +kernel
theorem dL_law_768 : decode cL_law 768 = .ok (.iaload, 1) := by decide +kernel
theorem dL_law_769 : decode cL_law 769 = .ok (.invokevirtual 97, 3) := by decide +kernel
theorem dL_law_772 : decode cL_law 772 = .ok (.aload_n 2, 1) := by decide +kernel
theorem dL_law_773 : decode cL_law 773 = .ok (.aload_n 0, 1) := by decide +kernel
theorem dL_law_774 : decode cL_law 774 = .ok (.iload_n 3, 1) := by decide +kernel
theorem dL_law_775 : decode cL_law 775 = .ok (.iconst 1, 1) := by decide +kernel
theorem dL_law_776 : decode cL_law 776 = .ok (.iadd, 1) := by decide +kernel
theorem dL_law_777 : decode cL_law 777 = .ok (.iaload, 1) := by decide +kernel
theorem dL_law_778 : decode cL_law 778 = .ok (.aload_n 0, 1) := by decide +kernel
theorem dL_law_779 : decode cL_law 779 = .ok (.iload_n 3, 1) := by decide +kernel
theorem dL_law_780 : decode cL_law 780 = .ok (.iconst 2, 1) := by decide +kernel
theorem dL_law_781 : decode cL_law 781 = .ok (.iadd, 1) := by decide +kernel
theorem dL_law_782 : decode cL_law 782 = .ok (.iaload, 1) := by decide +kernel
theorem dL_law_783 : decode cL_law 783 = .ok (.aload_n 0, 1) := by decide +kernel
theorem dL_law_784 : decode cL_law 784 = .ok (.iload_n 3, 1) := by decide +kernel
theorem dL_law_785 : decode cL_law 785 = .ok (.iconst 3, 1) := by decide +kernel
theorem dL_law_786 : decode cL_law 786 = .ok (.iadd, 1) := by decide +kernel
theorem dL_law_787 : decode cL_law 787 = .ok (.iaload, 1) := by decide +kernel
theorem dL_law_788 : decode cL_law 788 = .ok (.aload_n 0, 1) := by decide +kernel
theorem dL_law_789 : decode cL_law 789 = .ok (.iload_n 3, 1) := by decide +kernel
theorem dL_law_790 : decode cL_law 790 = .ok (.iconst 4, 1) := by decide +kernel
theorem dL_law_791 : decode cL_law 791 = .ok (.iadd, 1) := by decide +kernel
theorem dL_law_792 : decode cL_law 792 = .ok (.iaload, 1) := by decide +kernel
theorem dL_law_793 : decode cL_law 793 = .ok (.invokevirtual 100, 3) := by decide +kernel
theorem dL_law_796 : decode cL_law 796 = .ok (.if_icmp .eq 322, 3) := by decide +kernel
theorem dL_law_799 : decode cL_law 799 = .ok (.iconst 0, 1) := by decide +kernel
theorem dL_law_800 : decode cL_law 800 = .ok (.ireturn, 1) := by decide +kernel
theorem dL_law_801 : decode cL_law 801 = .ok (.aload_n 1, 1) := by decide +kernel
theorem dL_law_802 : decode cL_law 802 = .ok (.aload_n 0, 1) := by decide +kernel
theorem dL_law_803 : decode cL_law 803 = .ok (.iload_n 3, 1) := by decide +kernel
theorem dL_law_804 : decode cL_law 804 = .ok (.iconst 1, 1) := by decide +kernel
theorem dL_law_805 : decode cL_law 805 = .ok (.iadd, 1) := by decide +kernel
theorem dL_law_806 : decode cL_law 806 = .ok (.iaload, 1) := by decide +kernel
theorem dL_law_807 : decode cL_law 807 = .ok (.aload_n 0, 1) := by decide +kernel
theorem dL_law_808 : decode cL_law 808 = .ok (.iload_n 3, 1) := by decide +kernel
theorem dL_law_809 : decode cL_law 809 = .ok (.iconst 2, 1) := by decide +kernel
theorem dL_law_810 : decode cL_law 810 = .ok (.iadd, 1) := by decide +kernel
theorem dL_law_811 : decode cL_law 811 = .ok (.iaload, 1) := by decide +kernel
theorem dL_law_812 : decode cL_law 812 = .ok (.aload_n 0, 1) := by decide +kernel
theorem dL_law_813 : decode cL_law 813 = .ok (.iload_n 3, 1) := by decide +kernel
theorem dL_law_814 : decode cL_law 814 = .ok (.iconst 3, 1) := by decide +kernel
theorem dL_law_815 : decode cL_law 815 = .ok (.iadd, 1) := by decide +kernel
theorem dL_law_816 : decode cL_law 816 = .ok (.iaload, 1) := by decide +kernel
theorem dL_law_817 : decode cL_law 817 = .ok (.aload_n 0, 1) := by decide +kernel
theorem dL_law_818 : decode cL_law 818 = .ok (.iload_n 3, 1) := by decide +kernel
theorem dL_law_819 : decode cL_law 819 = .ok (.iconst 4, 1) := by decide +kernel
theorem dL_law_820 : decode cL_law 820 = .ok (.iadd, 1) := by decide +kernel
theorem dL_law_821 : decode cL_law 821 = .ok (.iaload, 1) := by decide +kernel
theorem dL_law_822 : decode cL_law 822 = .ok (.invokevirtual 101, 3) := by decide +kernel
theorem dL_law_825 : decode cL_law 825 = .ok (.aload_n 2, 1) := by decide +kernel
theorem dL_law_826 : decode cL_law 826 = .ok (.aload_n 0, 1) := by decide +kernel
theorem dL_law_827 : decode cL_law 827 = .ok (.iload_n 3, 1) := by decide +kernel
theorem dL_law_828 : decode cL_law 828 = .ok (.iconst 1, 1) := by decide +kernel
theorem dL_law_829 : decode cL_law 829 = .ok (.iadd, 1) := by decide +kernel
theorem dL_law_830 : decode cL_law 830 = .ok (.iaload, 1) := by decide +kernel
theorem dL_law_831 : decode cL_law 831 = .ok (.aload_n 0, 1) := by decide +kernel
theorem dL_law_832 : decode cL_law 832 = .ok (.iload_n 3, 1) := by decide +kernel
theorem dL_law_833 : decode cL_law 833 = .ok (.iconst 2, 1) := by decide +kernel
theorem dL_law_834 : decode cL_law 834 = .ok (.iadd, 1) := by decide +kernel
theorem dL_law_835 : decode cL_law 835 = .ok (.iaload, 1) := by decide +kernel
theorem dL_law_836 : decode cL_law 836 = .ok (.aload_n 0, 1) := by decide +kernel
theorem dL_law_837 : decode cL_law 837 = .ok (.iload_n 3, 1) := by decide +kernel
theorem dL_law_838 : decode cL_law 838 = .ok (.iconst 3, 1) := by decide +kernel
theorem dL_law_839 : decode cL_law 839 = .ok (.iadd, 1) := by decide +kernel
theorem dL_law_840 : decode cL_law 840 = .ok (.iaload, 1) := by decide +kernel
theorem dL_law_841 : decode cL_law 841 = .ok (.aload_n 0, 1) := by decide +kernel
theorem dL_law_842 : decode cL_law 842 = .ok (.iload_n 3, 1) := by decide +kernel
theorem dL_law_843 : decode cL_law 843 = .ok (.iconst 4, 1) := by decide +kernel
theorem dL_law_844 : decode cL_law 844 = .ok (.iadd, 1) := by decide +kernel
theorem dL_law_845 : decode cL_law 845 = .ok (.iaload, 1) := by decide +kernel
theorem dL_law_846 : decode cL_law 846 = .ok (.invokevirtual 104, 3) := by decide +kernel
theorem dL_law_849 : decode cL_law 849 = .ok (.if_icmp .eq 269, 3) := by decide +kernel
theorem dL_law_852 : decode cL_law 852 = .ok (.iconst 0, 1) := by decide +kernel
theorem dL_law_853 : decode cL_law 853 = .ok (.ireturn, 1) := by decide +kernel
theorem dL_law_854 : decode cL_law 854 = .ok (.aload_n 1, 1) := by decide +kernel
theorem dL_law_855 : decode cL_law 855 = .ok (.aload_n 0, 1) := by decide +kernel
theorem dL_law_856 : decode cL_law 856 = .ok (.iload_n 3, 1) := by decide +kernel
theorem dL_law_857 : decode cL_law 857 = .ok (.iconst 1, 1) := by decide +kernel
theorem dL_law_858 : decode cL_law 858 = .ok (.iadd, 1) := by decide +kernel
theorem dL_law_859 : decode cL_law 859 = .ok (.iaload, 1) := by decide +kernel
theorem dL_law_860 : decode cL_law 860 = .ok (.aload_n 0, 1) := by decide +kernel
theorem dL_law_861 : decode cL_law 861 = .ok (.iload_n 3, 1) := by decide +kernel
theorem dL_law_862 : decode cL_law 862 = .ok (.iconst 2, 1) := by decide +kernel
theorem dL_law_863 : decode cL_law 863 = .ok (.iadd, 1) := by decide +kernel
theorem dL_law_864 : decode cL_law 864 = .ok (.iaload, 1) := by decide +kernel
theorem dL_law_865 : decode cL_law 865 = .ok (.aload_n 0, 1) := by decide +kernel
theorem dL_law_866 : decode cL_law 866 = .ok (.iload_n 3, 1) := by decide +kernel
theorem dL_law_867 : decode cL_law 867 = .ok (.iconst 3, 1) := by decide +kernel
theorem dL_law_868 : decode cL_law 868 = .ok (.iadd, 1) := by decide +kernel
theorem dL_law_869 : decode cL_law 869 = .ok (.iaload, 1) := by decide +kernel
theorem dL_law_870 : decode cL_law 870 = .ok (.invokevirtual 105, 3) := by decide +kernel
theorem dL_law_873 : decode cL_law 873 = .ok (.aload_n 2, 1) := by decide +kernel
theorem dL_law_874 : decode cL_law 874 = .ok (.aload_n 0, 1) := by decide +kernel
theorem dL_law_875 : decode cL_law 875 = .ok (.iload_n 3, 1) := by decide +kernel
theorem dL_law_876 : decode cL_law 876 = .ok (.iconst 1, 1) := by decide +kernel
theorem dL_law_877 : decode cL_law 877 = .ok (.iadd, 1) := by decide +kernel
theorem dL_law_878 : decode cL_law 878 = .ok (.iaload, 1) := by decide +kernel
theorem dL_law_879 : decode cL_law 879 = .ok (.aload_n 0, 1) := by decide +kernel
theorem dL_law_880 : decode cL_law 880 = .ok (.iload_n 3, 1) := by decide +kernel
theorem dL_law_881 : decode cL_law 881 = .ok (.iconst 2, 1) := by decide +kernel
theorem dL_law_882 : decode cL_law 882 = .ok (.iadd, 1) := by decide +kernel
theorem dL_law_883 : decode cL_law 883 = .ok (.iaload, 1) := by decide +kernel
theorem dL_law_884 : decode cL_law 884 = .ok (.aload_n 0, 1) := by decide +kernel
theorem dL_law_885 : decode cL_law 885 = .ok (.iload_n 3, 1) := by decide +kernel
theorem dL_law_886 : decode cL_law 886 = .ok (.iconst 3, 1) := by decide +kernel
theorem dL_law_887 : decode cL_law 887 = .ok (.iadd, 1) := by decide +kernel
theorem dL_law_888 : decode cL_law 888 = .ok (.iaload, 1) := by decide +kernel
theorem dL_law_889 : decode cL_law 889 = .ok (.invokevirtual 108, 3) := by decide +kernel
theorem dL_law_892 : decode cL_law 892 = .ok (.if_icmp .eq 226, 3) := by decide +kernel
theorem dL_law_895 : decode cL_law 895 = .ok (.iconst 0, 1) := by decide +kernel
theorem dL_law_896 : decode cL_law 896 = .ok (.ireturn, 1) := by decide +kernel
theorem dL_law_897 : decode cL_law 897 = .ok (.aload_n 1, 1) := by decide +kernel
theorem dL_law_898 : decode cL_law 898 = .ok (.aload_n 0, 1) := by decide +kernel
theorem dL_law_899 : decode cL_law 899 = .ok (.iload_n 3, 1) := by decide +kernel
theorem dL_law_900 : decode cL_law 900 = .ok (.iconst 1, 1) := by decide +kernel
theorem dL_law_901 : decode cL_law 901 = .ok (.iadd, 1) := by decide +kernel
theorem dL_law_902 : decode cL_law 902 = .ok (.iaload, 1) := by decide +kernel
theorem dL_law_903 : decode cL_law 903 = .ok (.invokevirtual 109, 3) := by decide +kernel
theorem dL_law_906 : decode cL_law 906 = .ok (.aload_n 2, 1) := by decide +kernel
theorem dL_law_907 : decode cL_law 907 = .ok (.aload_n 0, 1) := by decide +kernel
theorem dL_law_908 : decode cL_law 908 = .ok (.iload_n 3, 1) := by decide +kernel
theorem dL_law_909 : decode cL_law 909 = .ok (.iconst 1, 1) := by decide +kernel
theorem dL_law_910 : decode cL_law 910 = .ok (.iadd, 1) := by decide +kernel
theorem dL_law_911 : decode cL_law 911 = .ok (.iaload, 1) := by decide +kernel
theorem dL_law_912 : decode cL_law 912 = .ok (.invokevirtual 112, 3) := by decide +kernel
theorem dL_law_915 : decode cL_law 915 = .ok (.lcmp, 1) := by decide +kernel
theorem dL_law_916 : decode cL_law 916 = .ok (.ifCond .eq 202, 3) := by decide +kernel
theorem dL_law_919 : decode cL_law 919 = .ok (.iconst 0, 1) := by decide +kernel
theorem dL_law_920 : decode cL_law 920 = .ok (.ireturn, 1) := by decide +kernel
theorem dL_law_921 : decode cL_law 921 = .ok (.aload_n 1, 1) := by decide +kernel
theorem dL_law_922 : decode cL_law 922 = .ok (.invokevirtual 113, 3) := by decide +kernel
theorem dL_law_925 : decode cL_law 925 = .ok (.aload_n 2, 1) := by decide +kernel
theorem dL_law_926 : decode cL_law 926 = .ok (.invokevirtual 116, 3) := by decide +kernel
theorem dL_law_929 : decode cL_law 929 = .ok (.if_icmp .eq 189, 3) := by decide +kernel
theorem dL_law_932 : decode cL_law 932 = .ok (.iconst 0, 1) := by decide +kernel
theorem dL_law_933 : decode cL_law 933 = .ok (.ireturn, 1) := by decide +kernel
theorem dL_law_934 : decode cL_law 934 = .ok (.aload_n 1, 1) := by decide +kernel
theorem dL_law_935 : decode cL_law 935 = .ok (.invokevirtual 117, 3) := by decide +kernel
theorem dL_law_938 : decode cL_law 938 = .ok (.aload_n 2, 1) := by decide +kernel
theorem dL_law_939 : decode cL_law 939 = .ok (.invokevirtual 121, 3) := by decide +kernel
theorem dL_law_942 : decode cL_law 942 = .ok (.lcmp, 1) := by decide +kernel
theorem dL_law_943 : decode cL_law 943 = .ok (.ifCond .eq 175, 3) := by decide +kernel
theorem dL_law_946 : decode cL_law 946 = .ok (.iconst 0, 1) := by decide +kernel
theorem dL_law_947 : decode cL_law 947 = .ok (.ireturn, 1) := by decide +kernel
theorem dL_law_948 : decode cL_law 948 = .ok (.aload_n 1, 1) := by decide +kernel
theorem dL_law_949 : decode cL_law 949 = .ok (.aload_n 0, 1) := by decide +kernel
theorem dL_law_950 : decode cL_law 950 = .ok (.iload_n 3, 1) := by decide +kernel
theorem dL_law_951 : decode cL_law 951 = .ok (.iconst 1, 1) := by decide +kernel
theorem dL_law_952 : decode cL_law 952 = .ok (.iadd, 1) := by decide +kernel
theorem dL_law_953 : decode cL_law 953 = .ok (.iaload, 1) := by decide +kernel
theorem dL_law_954 : decode cL_law 954 = .ok (.ifCond .eq 7, 3) := by decide +kernel
theorem dL_law_957 : decode cL_law 957 = .ok (.iconst 1, 1) := by decide +kernel
theorem dL_law_958 : decode cL_law 958 = .ok (.goto 4, 3) := by decide +kernel
theorem dL_law_961 : decode cL_law 961 = .ok (.iconst 0, 1) := by decide +kernel
theorem dL_law_962 : decode cL_law 962 = .ok (.invokevirtual 122, 3) := by decide +kernel
theorem dL_law_965 : decode cL_law 965 = .ok (.aload_n 2, 1) := by decide +kernel
theorem dL_law_966 : decode cL_law 966 = .ok (.aload_n 0, 1) := by decide +kernel
theorem dL_law_967 : decode cL_law 967 = .ok (.iload_n 3, 1) := by decide +kernel
theorem dL_law_968 : decode cL_law 968 = .ok (.iconst 1, 1) := by decide +kernel
theorem dL_law_969 : decode cL_law 969 = .ok (.iadd, 1) := by decide +kernel
theorem dL_law_970 : decode cL_law 970 = .ok (.iaload, 1) := by decide +kernel
theorem dL_law_971 : decode cL_law 971 = .ok (.ifCond .eq 7, 3) := by decide +kernel
theorem dL_law_974 : decode cL_law 974 = .ok (.iconst 1, 1) := by decide +kernel
theorem dL_law_975 : decode cL_law 975 = .ok (.goto 4, 3) := by decide +kernel
theorem dL_law_978 : decode cL_law 978 = .ok (.iconst 0, 1) := by decide +kernel
theorem dL_law_979 : decode cL_law 979 = .ok (.invokevirtual 126, 3) := by decide +kernel
theorem dL_law_982 : decode cL_law 982 = .ok (.lcmp, 1) := by decide +kernel
theorem dL_law_983 : decode cL_law 983 = .ok (.ifCond .eq 135, 3) := by decide +kernel
theorem dL_law_986 : decode cL_law 986 = .ok (.iconst 0, 1) := by decide +kernel
theorem dL_law_987 : decode cL_law 987 = .ok (.ireturn, 1) := by decide +kernel
theorem dL_law_988 : decode cL_law 988 = .ok (.aload_n 1, 1) := by decide +kernel
theorem dL_law_989 : decode cL_law 989 = .ok (.invokevirtual 127, 3) := by decide +kernel
theorem dL_law_992 : decode cL_law 992 = .ok (.aload_n 2, 1) := by decide +kernel
theorem dL_law_993 : decode cL_law 993 = .ok (.invokevirtual 130, 3) := by decide +kernel
theorem dL_law_996 : decode cL_law 996 = .ok (.lcmp, 1) := by decide +kernel
theorem dL_law_997 : decode cL_law 997 = .ok (.ifCond .eq 121, 3) := by decide +kernel
theorem dL_law_1000 : decode cL_law 1000 = .ok (.iconst 0, 1) := by decide +kernel
theorem dL_law_1001 : decode cL_law 1001 = .ok (.ireturn, 1) := by decide +kernel
theorem dL_law_1002 : decode cL_law 1002 = .ok (.aload_n 1, 1) := by decide +kernel
theorem dL_law_1003 : decode cL_law 1003 = .ok (.aload_n 0, 1) := by decide +kernel
theorem dL_law_1004 : decode cL_law 1004 = .ok (.iload_n 3, 1) := by decide +kernel
theorem dL_law_1005 : decode cL_law 1005 = .ok (.iconst 1, 1) := by decide +kernel
theorem dL_law_1006 : decode cL_law 1006 = .ok (.iadd, 1) := by decide +kernel
theorem dL_law_1007 : decode cL_law 1007 = .ok (.iaload, 1) := by decide +kernel
theorem dL_law_1008 : decode cL_law 1008 = .ok (.aload_n 0, 1) := by decide +kernel
theorem dL_law_1009 : decode cL_law 1009 = .ok (.iload_n 3, 1) := by decide +kernel
theorem dL_law_1010 : decode cL_law 1010 = .ok (.iconst 2, 1) := by decide +kernel
theorem dL_law_1011 : decode cL_law 1011 = .ok (.iadd, 1) := by decide +kernel
theorem dL_law_1012 : decode cL_law 1012 = .ok (.iaload, 1) := by decide +kernel
theorem dL_law_1013 : decode cL_law 1013 = .ok (.invokevirtual 131, 3) := by decide +kernel
theorem dL_law_1016 : decode cL_law 1016 = .ok (.aload_n 2, 1) := by decide +kernel
theorem dL_law_1017 : decode cL_law 1017 = .ok (.aload_n 0, 1) := by decide +kernel
theorem dL_law_1018 : decode cL_law 1018 = .ok (.iload_n 3, 1) := by decide +kernel
theorem dL_law_1019 : decode cL_law 1019 = .ok (.iconst 1, 1) := by decide +kernel
theorem dL_law_1020 : decode cL_law 1020 = .ok (.iadd, 1) := by decide +kernel
theorem dL_law_1021 : decode cL_law 1021 = .ok (.iaload, 1) := by decide +kernel
theorem dL_law_1022 : decode cL_law 1022 = .ok (.aload_n 0, 1) := by decide +kernel
theorem dL_law_1023 : decode cL_law 1023 = .ok (.iload_n 3, 1) := by decide +kernel
theorem dL_law_1024 : decode cL_law 1024 = .ok (.iconst 2, 1) := by decide +kernel
theorem dL_law_1025 : decode cL_law 1025 = .ok (.iadd, 1) := by decide +kernel
theorem dL_law_1026 : decode cL_law 1026 = .ok (.iaload, 1) := by decide +kernel
theorem dL_law_1027 : decode cL_law 1027 = .ok (.invokevirtual 134, 3) := by decide +kernel
theorem dL_law_1030 : decode cL_law 1030 = .ok (.if_icmp .eq 88, 3) := by decide +kernel
theorem dL_law_1033 : decode cL_law 1033 = .ok (.iconst 0, 1) := by decide +kernel
theorem dL_law_1034 : decode cL_law 1034 = .ok (.ireturn, 1) := by decide +kernel
theorem dL_law_1035 : decode cL_law 1035 = .ok (.aload_n 1, 1) := by decide +kernel
theorem dL_law_1036 : decode cL_law 1036 = .ok (.aload_n 0, 1) := by decide +kernel
theorem dL_law_1037 : decode cL_law 1037 = .ok (.iload_n 3, 1) := by decide +kernel
theorem dL_law_1038 : decode cL_law 1038 = .ok (.iconst 1, 1) := by decide +kernel
theorem dL_law_1039 : decode cL_law 1039 = .ok (.iadd, 1) := by decide +kernel
theorem dL_law_1040 : decode cL_law 1040 = .ok (.iaload, 1) := by decide +kernel
theorem dL_law_1041 : decode cL_law 1041 = .ok (.aload_n 0, 1) := by decide +kernel
theorem dL_law_1042 : decode cL_law 1042 = .ok (.iload_n 3, 1) := by decide +kernel
theorem dL_law_1043 : decode cL_law 1043 = .ok (.iconst 2, 1) := by decide +kernel
theorem dL_law_1044 : decode cL_law 1044 = .ok (.iadd, 1) := by decide +kernel
theorem dL_law_1045 : decode cL_law 1045 = .ok (.iaload, 1) := by decide +kernel
theorem dL_law_1046 : decode cL_law 1046 = .ok (.invokevirtual 135, 3) := by decide +kernel
theorem dL_law_1049 : decode cL_law 1049 = .ok (.aload_n 2, 1) := by decide +kernel
theorem dL_law_1050 : decode cL_law 1050 = .ok (.aload_n 0, 1) := by decide +kernel
theorem dL_law_1051 : decode cL_law 1051 = .ok (.iload_n 3, 1) := by decide +kernel
theorem dL_law_1052 : decode cL_law 1052 = .ok (.iconst 1, 1) := by decide +kernel
theorem dL_law_1053 : decode cL_law 1053 = .ok (.iadd, 1) := by decide +kernel
theorem dL_law_1054 : decode cL_law 1054 = .ok (.iaload, 1) := by decide +kernel
theorem dL_law_1055 : decode cL_law 1055 = .ok (.aload_n 0, 1) := by decide +kernel
theorem dL_law_1056 : decode cL_law 1056 = .ok (.iload_n 3, 1) := by decide +kernel
theorem dL_law_1057 : decode cL_law 1057 = .ok (.iconst 2, 1) := by decide +kernel
theorem dL_law_1058 : decode cL_law 1058 = .ok (.iadd, 1) := by decide +kernel
theorem dL_law_1059 : decode cL_law 1059 = .ok (.iaload, 1) := by decide +kernel
theorem dL_law_1060 : decode cL_law 1060 = .ok (.invokevirtual 138, 3) := by decide +kernel
theorem dL_law_1063 : decode cL_law 1063 = .ok (.if_icmp .eq 55, 3) := by decide +kernel
theorem dL_law_1066 : decode cL_law 1066 = .ok (.iconst 0, 1) := by decide +kernel
theorem dL_law_1067 : decode cL_law 1067 = .ok (.ireturn, 1) := by decide +kernel
theorem dL_law_1068 : decode cL_law 1068 = .ok (.aload_n 1, 1) := by decide +kernel
theorem dL_law_1069 : decode cL_law 1069 = .ok (.invokevirtual 139, 3) := by decide +kernel
theorem dL_law_1072 : decode cL_law 1072 = .ok (.aload_n 2, 1) := by decide +kernel
theorem dL_law_1073 : decode cL_law 1073 = .ok (.invokevirtual 142, 3) := by decide +kernel
theorem dL_law_1076 : decode cL_law 1076 = .ok (.if_icmp .eq 42, 3) := by decide +kernel
theorem dL_law_1079 : decode cL_law 1079 = .ok (.iconst 0, 1) := by decide +kernel
theorem dL_law_1080 : decode cL_law 1080 = .ok (.ireturn, 1) := by decide +kernel
theorem dL_law_1081 : decode cL_law 1081 = .ok (.aload_n 1, 1) := by decide +kernel
theorem dL_law_1082 : decode cL_law 1082 = .ok (.aload_n 0, 1) := by decide +kernel
theorem dL_law_1083 : decode cL_law 1083 = .ok (.iload_n 3, 1) := by decide +kernel
theorem dL_law_1084 : decode cL_law 1084 = .ok (.iconst 1, 1) := by decide +kernel
theorem dL_law_1085 : decode cL_law 1085 = .ok (.iadd, 1) := by decide +kernel
theorem dL_law_1086 : decode cL_law 1086 = .ok (.iaload, 1) := by decide +kernel
theorem dL_law_1087 : decode cL_law 1087 = .ok (.invokevirtual 143, 3) := by decide +kernel
theorem dL_law_1090 : decode cL_law 1090 = .ok (.aload_n 2, 1) := by decide +kernel
theorem dL_law_1091 : decode cL_law 1091 = .ok (.aload_n 0, 1) := by decide +kernel
theorem dL_law_1092 : decode cL_law 1092 = .ok (.iload_n 3, 1) := by decide +kernel
theorem dL_law_1093 : decode cL_law 1093 = .ok (.iconst 1, 1) := by decide +kernel
theorem dL_law_1094 : decode cL_law 1094 = .ok (.iadd, 1) := by decide +kernel
theorem dL_law_1095 : decode cL_law 1095 = .ok (.iaload, 1) := by decide +kernel
theorem dL_law_1096 : decode cL_law 1096 = .ok (.invokevirtual 146, 3) := by decide +kernel
theorem dL_law_1099 : decode cL_law 1099 = .ok (.if_icmp .eq 19, 3) := by decide +kernel
theorem dL_law_1102 : decode cL_law 1102 = .ok (.iconst 0, 1) := by decide +kernel
theorem dL_law_1103 : decode cL_law 1103 = .ok (.ireturn, 1) := by decide +kernel
theorem dL_law_1104 : decode cL_law 1104 = .ok (.aload_n 1, 1) := by decide +kernel
theorem dL_law_1105 : decode cL_law 1105 = .ok (.invokevirtual 147, 3) := by decide +kernel
theorem dL_law_1108 : decode cL_law 1108 = .ok (.aload_n 2, 1) := by decide +kernel
theorem dL_law_1109 : decode cL_law 1109 = .ok (.invokevirtual 150, 3) := by decide +kernel
theorem dL_law_1112 : decode cL_law 1112 = .ok (.lcmp, 1) := by decide +kernel
theorem dL_law_1113 : decode cL_law 1113 = .ok (.ifCond .eq 5, 3) := by decide +kernel
theorem dL_law_1116 : decode cL_law 1116 = .ok (.iconst 0, 1) := by decide +kernel
theorem dL_law_1117 : decode cL_law 1117 = .ok (.ireturn, 1) := by decide +kernel
theorem dL_law_1118 : decode cL_law 1118 = .ok (.iinc 3 5, 3) := by decide +kernel
theorem dL_law_1121 : decode cL_law 1121 = .ok (.goto (-1103), 3) := by decide +kernel
theorem dL_law_1124 : decode cL_law 1124 = .ok (.iconst 1, 1) := by decide +kernel
theorem dL_law_1125 : decode cL_law 1125 = .ok (.ireturn, 1) := by decide +kernel
