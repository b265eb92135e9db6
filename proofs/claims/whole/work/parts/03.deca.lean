theorem dX0_init_0 : decode cX0_init 0 = .ok (.aload_n 0, 1) := by decide +kernel
theorem dX0_init_1 : decode cX0_init 1 = .ok (.invokespecial 3, 3) := by decide +kernel
theorem dX0_init_4 : decode cX0_init 4 = .ok (.aload_n 0, 1) := by decide +kernel
theorem dX0_init_5 : decode cX0_init 5 = .ok (.sipush 176, 3) := by decide +kernel
theorem dX0_init_8 : decode cX0_init 8 = .ok (.newarray .int, 2) := by decide +kernel
theorem dX0_init_10 : decode cX0_init 10 = .ok (.putfield 11, 3) := by decide +kernel
theorem dX0_init_13 : decode cX0_init 13 = .ok (.return_, 1) := by decide +kernel
theorem dX0_size_0 : decode cX0_size 0 = .ok (.aload_n 0, 1) := by decide +kernel
theorem dX0_size_1 : decode cX0_size 1 = .ok (.getfield 15, 3) := by decide +kernel
theorem dX0_size_4 : decode cX0_size 4 = .ok (.ireturn, 1) := by decide +kernel
theorem dX0_record_0 : decode cX0_record 0 = .ok (.aload_n 0, 1) := by decide +kernel
theorem dX0_record_1 : decode cX0_record 1 = .ok (.getfield 15, 3) := by decide +kernel
theorem dX0_record_4 : decode cX0_record 4 = .ok (.bipush 8, 2) := by decide +kernel
theorem dX0_record_6 : decode cX0_record 6 = .ok (.if_icmp .ne 30, 3) := by decide +kernel
theorem dX0_record_9 : decode cX0_record 9 = .ok (.aload_n 0, 1) := by decide +kernel
theorem dX0_record_10 : decode cX0_record 10 = .ok (.getfield 11, 3) := by decide +kernel
theorem dX0_record_13 : decode cX0_record 13 = .ok (.bipush 22, 2) := by decide +kernel
theorem dX0_record_15 : decode cX0_record 15 = .ok (.aload_n 0, 1) := by decide +kernel
theorem dX0_record_16 : decode cX0_record 16 = .ok (.getfield 11, 3) := by decide +kernel
theorem dX0_record_19 : decode cX0_record 19 = .ok (.iconst 0, 1) := by decide +kernel
theorem dX0_record_20 : decode cX0_record 20 = .ok (.sipush 154, 3) := by decide +kernel
theorem dX0_record_23 : decode cX0_record 23 = .ok (.invokestatic 19, 3) := by decide +kernel
theorem dX0_record_26 : decode cX0_record 26 = .ok (.aload_n 0, 1) := by decide +kernel
theorem dX0_record_27 : decode cX0_record 27 = .ok (.dup, 1) := by decide +kernel
theorem dX0_record_28 : decode cX0_record 28 = .ok (.getfield 15, 3) := by decide +kernel
theorem dX0_record_31 : decode cX0_record 31 = .ok (.iconst 1, 1) := by decide +kernel
theorem dX0_record_32 : decode cX0_record 32 = .ok (.isub, 1) := by decide +kernel
theorem dX0_record_33 : decode cX0_record 33 = .ok (.putfield 15, 3) := by decide +kernel
theorem dX0_record_36 : decode cX0_record 36 = .ok (.aload_n 1, 1) := by decide +kernel
theorem dX0_record_37 : decode cX0_record 37 = .ok (.iconst 0, 1) := by decide +kernel
theorem dX0_record_38 : decode cX0_record 38 = .ok (.aload_n 0, 1) := by decide +kernel
theorem dX0_record_39 : decode cX0_record 39 = .ok (.getfield 11, 3) := by decide +kernel
theorem dX0_record_42 : decode cX0_record 42 = .ok (.aload_n 0, 1) := by decide +kernel
theorem dX0_record_43 : decode cX0_record 43 = .ok (.getfield 15, 3) := by decide +kernel
theorem dX0_record_46 : decode cX0_record 46 = .ok (.bipush 22, 2) := by decide +kernel
theorem dX0_record_48 : decode cX0_record 48 = .ok (.imul, 1) := by decide +kernel
theorem dX0_record_49 : decode cX0_record 49 = .ok (.bipush 22, 2) := by decide +kernel
theorem dX0_record_51 : decode cX0_record 51 = .ok (.invokestatic 19, 3) := by decide +kernel
theorem dX0_record_54 : decode cX0_record 54 = .ok (.aload_n 0, 1) := by decide +kernel
theorem dX0_record_55 : decode cX0_record 55 = .ok (.dup, 1) := by decide +kernel
theorem dX0_record_56 : decode cX0_record 56 = .ok (.getfield 15, 3) := by decide +kernel
theorem dX0_record_59 : decode cX0_record 59 = .ok (.iconst 1, 1) := by decide +kernel
theorem dX0_record_60 : decode cX0_record 60 = .ok (.iadd, 1) := by decide +kernel
theorem dX0_record_61 : decode cX0_record 61 = .ok (.putfield 15, 3) := by decide +kernel
theorem dX0_record_64 : decode cX0_record 64 = .ok (.return_, 1) := by decide +kernel
theorem dX0_restore_0 : decode cX0_restore 0 = .ok (.aload_n 0, 1) := by decide +kernel
theorem dX0_restore_1 : decode cX0_restore 1 = .ok (.getfield 15, 3) := by decide +kernel
theorem dX0_restore_4 : decode cX0_restore 4 = .ok (.ifCond .le 31, 3) := by decide +kernel
theorem dX0_restore_7 : decode cX0_restore 7 = .ok (.aload_n 0, 1) := by decide +kernel
theorem dX0_restore_8 : decode cX0_restore 8 = .ok (.dup, 1) := by decide +kernel
theorem dX0_restore_9 : decode cX0_restore 9 = .ok (.getfield 15, 3) := by decide +kernel
theorem dX0_restore_12 : decode cX0_restore 12 = .ok (.iconst 1, 1) := by decide +kernel
theorem dX0_restore_13 : decode cX0_restore 13 = .ok (.isub, 1) := by decide +kernel
theorem dX0_restore_14 : decode cX0_restore 14 = .ok (.putfield 15, 3) := by decide +kernel
theorem dX0_restore_17 : decode cX0_restore 17 = .ok (.aload_n 0, 1) := by decide +kernel
theorem dX0_restore_18 : decode cX0_restore 18 = .ok (.getfield 11, 3) := by decide +kernel
theorem dX0_restore_21 : decode cX0_restore 21 = .ok (.aload_n 0, 1) := by decide +kernel
theorem dX0_restore_22 : decode cX0_restore 22 = .ok (.getfield 15, 3) := by decide +kernel
theorem dX0_restore_25 : decode cX0_restore 25 = .ok (.bipush 22, 2) := by decide +kernel
theorem dX0_restore_27 : decode cX0_restore 27 = .ok (.imul, 1) := by decide +kernel
theorem dX0_restore_28 : decode cX0_restore 28 = .ok (.aload_n 1, 1) := by decide +kernel
theorem dX0_restore_29 : decode cX0_restore 29 = .ok (.iconst 0, 1) := by decide +kernel
theorem dX0_restore_30 : decode cX0_restore 30 = .ok (.bipush 22, 2) := by decide +kernel
theorem dX0_restore_32 : decode cX0_restore 32 = .ok (.invokestatic 19, 3) := by decide +kernel
theorem dX0_restore_35 : decode cX0_restore 35 = .ok (.return_, 1) := by decide +kernel
theorem dX1_init_0 : decode cX1_init 0 = .ok (.aload_n 0, 1) := by decide +kernel
theorem dX1_init_1 : decode cX1_init 1 = .ok (.invokespecial 3, 3) := by decide +kernel
theorem dX1_init_4 : decode cX1_init 4 = .ok (.aload_n 0, 1) := by decide +kernel
theorem dX1_init_5 : decode cX1_init 5 = .ok (.bipush 49, 2) := by decide +kernel
theorem dX1_init_7 : decode cX1_init 7 = .ok (.newarray .long, 2) := by decide +kernel
theorem dX1_init_9 : decode cX1_init 9 = .ok (.putfield 9, 3) := by decide +kernel
theorem dX1_init_12 : decode cX1_init 12 = .ok (.aload_n 0, 1) := by decide +kernel
theorem dX1_init_13 : decode cX1_init 13 = .ok (.bipush 32, 2) := by decide +kernel
theorem dX1_init_15 : decode cX1_init 15 = .ok (.newarray .long, 2) := by decide +kernel
theorem dX1_init_17 : decode cX1_init 17 = .ok (.putfield 15, 3) := by decide +kernel
theorem dX1_init_20 : decode cX1_init 20 = .ok (.aload_n 0, 1) := by decide +kernel
theorem dX1_init_21 : decode cX1_init 21 = .ok (.bipush 32, 2) := by decide +kernel
theorem dX1_init_23 : decode cX1_init 23 = .ok (.newarray .long, 2) := by decide +kernel
theorem dX1_init_25 : decode cX1_init 25 = .ok (.putfield 18, 3) := by decide +kernel
theorem dX1_init_28 : decode cX1_init 28 = .ok (.return_, 1) := by decide +kernel
theorem dX1_worthOf_0 : decode cX1_worthOf 0 = .ok (.aload_n 0, 1) := by decide +kernel
theorem dX1_worthOf_1 : decode cX1_worthOf 1 = .ok (.getfield 9, 3) := by decide +kernel
theorem dX1_worthOf_4 : decode cX1_worthOf 4 = .ok (.iload_n 1, 1) := by decide +kernel
theorem dX1_worthOf_5 : decode cX1_worthOf 5 = .ok (.iconst 1, 1) := by decide +kernel
theorem dX1_worthOf_6 : decode cX1_worthOf 6 = .ok (.isub, 1) := by decide +kernel
theorem dX1_worthOf_7 : decode cX1_worthOf 7 = .ok (.bipush 7, 2) := by decide +kernel
theorem dX1_worthOf_9 : decode cX1_worthOf 9 = .ok (.imul, 1) := by decide +kernel
theorem dX1_worthOf_10 : decode cX1_worthOf 10 = .ok (.iload_n 2, 1) := by decide +kernel
theorem dX1_worthOf_11 : decode cX1_worthOf 11 = .ok (.iadd, 1) := by decide +kernel
theorem dX1_worthOf_12 : decode cX1_worthOf 12 = .ok (.iconst 1, 1) := by decide +kernel
theorem dX1_worthOf_13 : decode cX1_worthOf 13 = .ok (.isub, 1) := by decide +kernel
theorem dX1_worthOf_14 : decode cX1_worthOf 14 = .ok (.laload, 1) := by decide +kernel
theorem dX1_worthOf_15 : decode cX1_worthOf 15 = .ok (.lreturn, 1) := by decide +kernel
theorem dX1_valueBefore_0 : decode cX1_valueBefore 0 = .ok (.aload_n 0, 1) := by decide +kernel
theorem dX1_valueBefore_1 : decode cX1_valueBefore 1 = .ok (.getfield 15, 3) := by decide +kernel
theorem dX1_valueBefore_4 : decode cX1_valueBefore 4 = .ok (.iload_n 1, 1) := by decide +kernel
theorem dX1_valueBefore_5 : decode cX1_valueBefore 5 = .ok (.iload_n 2, 1) := by decide +kernel
theorem dX1_valueBefore_6 : decode cX1_valueBefore 6 = .ok (.invokestatic 21, 3) := by decide +kernel
theorem dX1_valueBefore_9 : decode cX1_valueBefore 9 = .ok (.laload, 1) := by decide +kernel
theorem dX1_valueBefore_10 : decode cX1_valueBefore 10 = .ok (.lreturn, 1) := by decide +kernel
theorem dX1_takes_0 : decode cX1_takes 0 = .ok (.aload_n 0, 1) := by decide +kernel
theorem dX1_takes_1 : decode cX1_takes 1 = .ok (.iload_n 1, 1) := by decide +kernel
theorem dX1_takes_2 : decode cX1_takes 2 = .ok (.iload_n 3, 1) := by decide +kernel
theorem dX1_takes_3 : decode cX1_takes 3 = .ok (.invokevirtual 25, 3) := by decide +kernel
theorem dX1_takes_6 : decode cX1_takes 6 = .ok (.aload_n 0, 1) := by decide +kernel
theorem dX1_takes_7 : decode cX1_takes 7 = .ok (.getfield 15, 3) := by decide +kernel
theorem dX1_takes_10 : decode cX1_takes 10 = .ok (.iload_n 1, 1) := by decide +kernel
theorem dX1_takes_11 : decode cX1_takes 11 = .ok (.iconst 1, 1) := by decide +kernel
theorem dX1_takes_12 : decode cX1_takes 12 = .ok (.iadd, 1) := by decide +kernel
theorem dX1_takes_13 : decode cX1_takes 13 = .ok (.iload_n 2, 1) := by decide +kernel
theorem dX1_takes_14 : decode cX1_takes 14 = .ok (.iconst 1, 1) := by decide +kernel
theorem dX1_takes_15 : decode cX1_takes 15 = .ok (.isub, 1) := by decide +kernel
theorem dX1_takes_16 : decode cX1_takes 16 = .ok (.invokestatic 21, 3) := by decide +kernel
theorem dX1_takes_19 : decode cX1_takes 19 = .ok (.laload, 1) := by decide +kernel
theorem dX1_takes_20 : decode cX1_takes 20 = .ok (.ladd, 1) := by decide +kernel
theorem dX1_takes_21 : decode cX1_takes 21 = .ok (.aload_n 0, 1) := by decide +kernel
theorem dX1_takes_22 : decode cX1_takes 22 = .ok (.getfield 15, 3) := by decide +kernel
theorem dX1_takes_25 : decode cX1_takes 25 = .ok (.iload_n 1, 1) := by decide +kernel
theorem dX1_takes_26 : decode cX1_takes 26 = .ok (.iconst 1, 1) := by decide +kernel
theorem dX1_takes_27 : decode cX1_takes 27 = .ok (.iadd, 1) := by decide +kernel
theorem dX1_takes_28 : decode cX1_takes 28 = .ok (.iload_n 2, 1) := by decide +kernel
theorem dX1_takes_29 : decode cX1_takes 29 = .ok (.invokestatic 21, 3) := by decide +kernel
theorem dX1_takes_32 : decode cX1_takes 32 = .ok (.laload, 1) := by decide +kernel
theorem dX1_takes_33 : decode cX1_takes 33 = .ok (.lcmp, 1) := by decide +kernel
theorem dX1_takes_34 : decode cX1_takes 34 = .ok (.ifCond .lt 7, 3) := by decide +kernel
theorem dX1_takes_37 : decode cX1_takes 37 = .ok (.iconst 1, 1) := by decide +kernel
theorem dX1_takes_38 : decode cX1_takes 38 = .ok (.goto 4, 3) := by decide +kernel
theorem dX1_takes_41 : decode cX1_takes 41 = .ok (.iconst 0, 1) := by decide +kernel
theorem dX1_takes_42 : decode cX1_takes 42 = .ok (.ireturn, 1) := by decide +kernel
theorem dX1_forget_0 : decode cX1_forget 0 = .ok (.aload_n 0, 1) := by decide +kernel
theorem dX1_forget_1 : decode cX1_forget 1 = .ok (.iconst 0, 1) := by decide +kernel
theorem dX1_forget_2 : decode cX1_forget 2 = .ok (.putfield 29, 3) := by decide +kernel
theorem dX1_forget_5 : decode cX1_forget 5 = .ok (.return_, 1) := by decide +kernel
theorem dX1_solve_0 : decode cX1_solve 0 = .ok (.aload_n 0, 1) := by decide +kernel
theorem dX1_solve_1 : decode cX1_solve 1 = .ok (.getfield 29, 3) := by decide +kernel
theorem dX1_solve_4 : decode cX1_solve 4 = .ok (.ifCond .eq 4, 3) := by decide +kernel
theorem dX1_solve_7 : decode cX1_solve 7 = .ok (.return_, 1) := by decide +kernel
theorem dX1_solve_8 : decode cX1_solve 8 = .ok (.aload_n 0, 1) := by decide +kernel
theorem dX1_solve_9 : decode cX1_solve 9 = .ok (.iconst 1, 1) := by decide +kernel
theorem dX1_solve_10 : decode cX1_solve 10 = .ok (.putfield 29, 3) := by decide +kernel
theorem dX1_solve_13 : decode cX1_solve 13 = .ok (.aload_n 0, 1) := by decide +kernel
theorem dX1_solve_14 : decode cX1_solve 14 = .ok (.aload_n 1, 1) := by decide +kernel
theorem dX1_solve_15 : decode cX1_solve 15 = .ok (.iconst 0, 1) := by decide +kernel
theorem dX1_solve_16 : decode cX1_solve 16 = .ok (.iaload, 1) := by decide +kernel
theorem dX1_solve_17 : decode cX1_solve 17 = .ok (.putfield 33, 3) := by decide +kernel
theorem dX1_solve_20 : decode cX1_solve 20 = .ok (.aload_n 0, 1) := by decide +kernel
theorem dX1_solve_21 : decode cX1_solve 21 = .ok (.aload_n 1, 1) := by decide +kernel
theorem dX1_solve_22 : decode cX1_solve 22 = .ok (.iconst 2, 1) := by decide +kernel
theorem dX1_solve_23 : decode cX1_solve 23 = .ok (.iaload, 1) := by decide +kernel
theorem dX1_solve_24 : decode cX1_solve 24 = .ok (.i2l, 1) := by decide +kernel
theorem dX1_solve_25 : decode cX1_solve 25 = .ok (.ldc2_w 37, 3) := by decide +kernel
theorem dX1_solve_28 : decode cX1_solve 28 = .ok (.lmul, 1) := by decide +kernel
theorem dX1_solve_29 : decode cX1_solve 29 = .ok (.putfield 39, 3) := by decide +kernel
theorem dX1_solve_32 : decode cX1_solve 32 = .ok (.iconst 1, 1) := by decide +kernel
theorem dX1_solve_33 : decode cX1_solve 33 = .ok (.istore_n 2, 1) := by decide +kernel
theorem dX1_solve_34 : decode cX1_solve 34 = .ok (.iload_n 2, 1) := by decide +kernel
theorem dX1_solve_35 : decode cX1_solve 35 = .ok (.aload_n 0, 1) := by decide +kernel
theorem dX1_solve_36 : decode cX1_solve 36 = .ok (.getfield 33, 3) := by decide +kernel
theorem dX1_solve_39 : decode cX1_solve 39 = .ok (.if_icmp .gt 44, 3) := by decide +kernel
theorem dX1_solve_42 : decode cX1_solve 42 = .ok (.iconst 1, 1) := by decide +kernel
theorem dX1_solve_43 : decode cX1_solve 43 = .ok (.istore_n 3, 1) := by decide +kernel
theorem dX1_solve_44 : decode cX1_solve 44 = .ok (.iload_n 3, 1) := by decide +kernel
theorem dX1_solve_45 : decode cX1_solve 45 = .ok (.iload_n 2, 1) := by decide +kernel
theorem dX1_solve_46 : decode cX1_solve 46 = .ok (.if_icmp .gt 31, 3) := by decide +kernel
theorem dX1_solve_49 : decode cX1_solve 49 = .ok (.aload_n 0, 1) := by decide +kernel
theorem dX1_solve_50 : decode cX1_solve 50 = .ok (.getfield 9, 3) := by decide +kernel
theorem dX1_solve_53 : decode cX1_solve 53 = .ok (.iload_n 2, 1) := by decide +kernel
theorem dX1_solve_54 : decode cX1_solve 54 = .ok (.iconst 1, 1) := by decide +kernel
theorem dX1_solve_55 : decode cX1_solve 55 = .ok (.isub, 1) := by decide +kernel
theorem dX1_solve_56 : decode cX1_solve 56 = .ok (.bipush 7, 2) := by decide +kernel
theorem dX1_solve_58 : decode cX1_solve 58 = .ok (.imul, 1) := by decide +kernel
theorem dX1_solve_59 : decode cX1_solve 59 = .ok (.iload_n 3, 1) := by decide +kernel
theorem dX1_solve_60 : decode cX1_solve 60 = .ok (.iadd, 1) := by decide +kernel
theorem dX1_solve_61 : decode cX1_solve 61 = .ok (.iconst 1, 1) := by decide +kernel
theorem dX1_solve_62 : decode cX1_solve 62 = .ok (.isub, 1) := by decide +kernel
theorem dX1_solve_63 : decode cX1_solve 63 = .ok (.aload_n 0, 1) := by decide +kernel
theorem dX1_solve_64 : decode cX1_solve 64 = .ok (.aload_n 1, 1) := by decide +kernel
theorem dX1_solve_65 : decode cX1_solve 65 = .ok (.iload_n 2, 1) := by decide +kernel
theorem dX1_solve_66 : decode cX1_solve 66 = .ok (.iload_n 3, 1) := by decide +kernel
theorem dX1_solve_67 : decode cX1_solve 67 = .ok (.invokevirtual 43, 3) := by decide +kernel
theorem dX1_solve_70 : decode cX1_solve 70 = .ok (.lastore, 1) := by decide +kernel
theorem dX1_solve_71 : decode cX1_solve 71 = .ok (.iinc 3 1, 3) := by decide +kernel
theorem dX1_solve_74 : decode cX1_solve 74 = .ok (.goto (-30), 3) := by decide +kernel
theorem dX1_solve_77 : decode cX1_solve 77 = .ok (.iinc 2 1, 3) := by decide +kernel
theorem dX1_solve_80 : decode cX1_solve 80 = .ok (.goto (-46), 3) := by decide +kernel
theorem dX1_solve_83 : decode cX1_solve 83 = .ok (.aload_n 0, 1) := by decide +kernel
theorem dX1_solve_84 : decode cX1_solve 84 = .ok (.aload_n 0, 1) := by decide +kernel
theorem dX1_solve_85 : decode cX1_solve 85 = .ok (.getfield 15, 3) := by decide +kernel
theorem dX1_solve_88 : decode cX1_solve 88 = .ok (.invokevirtual 47, 3) := by decide +kernel
theorem dX1_solve_91 : decode cX1_solve 91 = .ok (.aload_n 0, 1) := by decide +kernel
theorem dX1_solve_92 : decode cX1_solve 92 = .ok (.getfield 33, 3) := by decide +kernel
theorem dX1_solve_95 : decode cX1_solve 95 = .ok (.istore_n 2, 1) := by decide +kernel
theorem dX1_solve_96 : decode cX1_solve 96 = .ok (.iload_n 2, 1) := by decide +kernel
theorem dX1_solve_97 : decode cX1_solve 97 = .ok (.iconst 1, 1) := by decide +kernel
theorem dX1_solve_98 : decode cX1_solve 98 = .ok (.if_icmp .lt 47, 3) := by decide +kernel
theorem dX1_solve_101 : decode cX1_solve 101 = .ok (.iconst 1, 1) := by decide +kernel
theorem dX1_solve_102 : decode cX1_solve 102 = .ok (.istore_n 3, 1) := by decide +kernel
theorem dX1_solve_103 : decode cX1_solve 103 = .ok (.iload_n 3, 1) := by decide +kernel
theorem dX1_solve_104 : decode cX1_solve 104 = .ok (.iconst 3, 1) := by decide +kernel
theorem dX1_solve_105 : decode cX1_solve 105 = .ok (.if_icmp .gt 34, 3) := by decide +kernel
theorem dX1_solve_108 : decode cX1_solve 108 = .ok (.aload_n 0, 1) := by decide +kernel
theorem dX1_solve_109 : decode cX1_solve 109 = .ok (.getfield 15, 3) := by decide +kernel
theorem dX1_solve_112 : decode cX1_solve 112 = .ok (.iload_n 2, 1) := by decide +kernel
theorem dX1_solve_113 : decode cX1_solve 113 = .ok (.iload_n 3, 1) := by decide +kernel
theorem dX1_solve_114 : decode cX1_solve 114 = .ok (.invokestatic 21, 3) := by decide +kernel
theorem dX1_solve_117 : decode cX1_solve 117 = .ok (.lconst 0, 1) := by decide +kernel
theorem dX1_solve_118 : decode cX1_solve 118 = .ok (.aload_n 0, 1) := by decide +kernel
theorem dX1_solve_119 : decode cX1_solve 119 = .ok (.iload_n 2, 1) := by decide +kernel
theorem dX1_solve_120 : decode cX1_solve 120 = .ok (.iload_n 3, 1) := by decide +kernel
theorem dX1_solve_121 : decode cX1_solve 121 = .ok (.invokevirtual 51, 3) := by decide +kernel
theorem dX1_solve_124 : decode cX1_solve 124 = .ok (.aload_n 0, 1) := by decide +kernel
theorem dX1_solve_125 : decode cX1_solve 125 = .ok (.getfield 39, 3) := by decide +kernel
theorem dX1_solve_128 : decode cX1_solve 128 = .ok (.lsub, 1) := by decide +kernel
theorem dX1_solve_129 : decode cX1_solve 129 = .ok (.invokestatic 54, 3) := by decide +kernel
theorem dX1_solve_132 : decode cX1_solve 132 = .ok (.lastore, 1) := by decide +kernel
theorem dX1_solve_133 : decode cX1_solve 133 = .ok (.iinc 3 1, 3) := by decide +kernel
theorem dX1_solve_136 : decode cX1_solve 136 = .ok (.goto (-33), 3) := by decide +kernel
theorem dX1_solve_139 : decode cX1_solve 139 = .ok (.iinc 2 (-1), 3) := by decide +kernel
theorem dX1_solve_142 : decode cX1_solve 142 = .ok (.goto (-46), 3) := by decide +kernel
theorem dX1_solve_145 : decode cX1_solve 145 = .ok (.return_, 1) := by decide +kernel
theorem dX1_expected_0 : decode cX1_expected 0 = .ok (.iload_n 1, 1) := by decide +kernel
theorem dX1_expected_1 : decode cX1_expected 1 = .ok (.ifCond .ne 7, 3) := by decide +kernel
theorem dX1_expected_4 : decode cX1_expected 4 = .ok (.iconst 1, 1) := by decide +kernel
theorem dX1_expected_5 : decode cX1_expected 5 = .ok (.goto 4, 3) := by decide +kernel
theorem dX1_expected_8 : decode cX1_expected 8 = .ok (.iconst 0, 1) := by decide +kernel
theorem dX1_expected_9 : decode cX1_expected 9 = .ok (.istore_n 3, 1) := by decide +kernel
theorem dX1_expected_10 : decode cX1_expected 10 = .ok (.iload_n 1, 1) := by decide +kernel
theorem dX1_expected_11 : decode cX1_expected 11 = .ok (.iconst 1, 1) := by decide +kernel
theorem dX1_expected_12 : decode cX1_expected 12 = .ok (.if_icmp .ne 7, 3) := by decide +kernel
theorem dX1_expected_15 : decode cX1_expected 15 = .ok (.iconst 1, 1) := by decide +kernel
theorem dX1_expected_16 : decode cX1_expected 16 = .ok (.goto 4, 3) := by decide +kernel
theorem dX1_expected_19 : decode cX1_expected 19 = .ok (.iconst 0, 1) := by decide +kernel
theorem dX1_expected_20 : decode cX1_expected 20 = .ok (.istore 4, 2) := by decide +kernel
theorem dX1_expected_22 : decode cX1_expected 22 = .ok (.aload_n 0, 1) := by decide +kernel
theorem dX1_expected_23 : decode cX1_expected 23 = .ok (.aload_n 0, 1) := by decide +kernel
theorem dX1_expected_24 : decode cX1_expected 24 = .ok (.getfield 18, 3) := by decide +kernel
theorem dX1_expected_27 : decode cX1_expected 27 = .ok (.invokevirtual 47, 3) := by decide +kernel
theorem dX1_expected_30 : decode cX1_expected 30 = .ok (.iload_n 3, 1) := by decide +kernel
theorem dX1_expected_31 : decode cX1_expected 31 = .ok (.ifCond .ne 42, 3) := by decide +kernel
theorem dX1_expected_34 : decode cX1_expected 34 = .ok (.iload 4, 2) := by decide +kernel
theorem dX1_expected_36 : decode cX1_expected 36 = .ok (.ifCond .ne 37, 3) := by decide +kernel
theorem dX1_expected_39 : decode cX1_expected 39 = .ok (.iconst 1, 1) := by decide +kernel
theorem dX1_expected_40 : decode cX1_expected 40 = .ok (.istore 5, 2) := by decide +kernel
theorem dX1_expected_42 : decode cX1_expected 42 = .ok (.iload 5, 2) := by decide +kernel
theorem dX1_expected_44 : decode cX1_expected 44 = .ok (.aload_n 0, 1) := by decide +kernel
theorem dX1_expected_45 : decode cX1_expected 45 = .ok (.getfield 33, 3) := by decide +kernel
theorem dX1_expected_48 : decode cX1_expected 48 = .ok (.iconst 1, 1) := by decide +kernel
theorem dX1_expected_49 : decode cX1_expected 49 = .ok (.iadd, 1) := by decide +kernel
theorem dX1_expected_50 : decode cX1_expected 50 = .ok (.if_icmp .gt 23, 3) := by decide +kernel
theorem dX1_expected_53 : decode cX1_expected 53 = .ok (.aload_n 0, 1) := by decide +kernel
theorem dX1_expected_54 : decode cX1_expected 54 = .ok (.getfield 18, 3) := by decide +kernel
theorem dX1_expected_57 : decode cX1_expected 57 = .ok (.iload 5, 2) := by decide +kernel
theorem dX1_expected_59 : decode cX1_expected 59 = .ok (.iconst 0, 1) := by decide +kernel
theorem dX1_expected_60 : decode cX1_expected 60 = .ok (.invokestatic 21, 3) := by decide +kernel
theorem dX1_expected_63 : decode cX1_expected 63 = .ok (.ldc2_w 37, 3) := by decide +kernel
theorem dX1_expected_66 : decode cX1_expected 66 = .ok (.lastore, 1) := by decide +kernel
theorem dX1_expected_67 : decode cX1_expected 67 = .ok (.iinc 5 1, 3) := by decide +kernel
theorem dX1_expected_70 : decode cX1_expected 70 = .ok (.goto (-28), 3) := by decide +kernel
theorem dX1_expected_73 : decode cX1_expected 73 = .ok (.aload_n 0, 1) := by decide +kernel
theorem dX1_expected_74 : decode cX1_expected 74 = .ok (.getfield 33, 3) := by decide +kernel
theorem dX1_expected_77 : decode cX1_expected 77 = .ok (.istore 5, 2) := by decide +kernel
theorem dX1_expected_79 : decode cX1_expected 79 = .ok (.iload 5, 2) := by decide +kernel
theorem dX1_expected_81 : decode cX1_expected 81 = .ok (.iconst 1, 1) := by decide +kernel
theorem dX1_expected_82 : decode cX1_expected 82 = .ok (.if_icmp .lt 78, 3) := by decide +kernel
theorem dX1_expected_85 : decode cX1_expected 85 = .ok (.iconst 1, 1) := by decide +kernel
theorem dX1_expected_86 : decode cX1_expected 86 = .ok (.istore 6, 2) := by decide +kernel
theorem dX1_expected_88 : decode cX1_expected 88 = .ok (.iload 6, 2) := by decide +kernel
theorem dX1_expected_90 : decode cX1_expected 90 = .ok (.iload_n 2, 1) := by decide +kernel
theorem dX1_expected_91 : decode cX1_expected 91 = .ok (.if_icmp .gt 63, 3) := by decide +kernel
theorem dX1_expected_94 : decode cX1_expected 94 = .ok (.lconst 0, 1) := by decide +kernel
theorem dX1_expected_95 : decode cX1_expected 95 = .ok (.lstore 7, 2) := by decide +kernel
theorem dX1_expected_97 : decode cX1_expected 97 = .ok (.aload_n 0, 1) := by decide +kernel
theorem dX1_expected_98 : decode cX1_expected 98 = .ok (.iload 5, 2) := by decide +kernel
theorem dX1_expected_100 : decode cX1_expected 100 = .ok (.iload 6, 2) := by decide +kernel
theorem dX1_expected_102 : decode cX1_expected 102 = .ok (.invokevirtual 60, 3) := by decide +kernel
theorem dX1_expected_105 : decode cX1_expected 105 = .ok (.lconst 0, 1) := by decide +kernel
theorem dX1_expected_106 : decode cX1_expected 106 = .ok (.lcmp, 1) := by decide +kernel
theorem dX1_expected_107 : decode cX1_expected 107 = .ok (.ifCond .eq 27, 3) := by decide +kernel
theorem dX1_expected_110 : decode cX1_expected 110 = .ok (.aload_n 0, 1) := by decide +kernel
theorem dX1_expected_111 : decode cX1_expected 111 = .ok (.iload 5, 2) := by decide +kernel
theorem dX1_expected_113 : decode cX1_expected 113 = .ok (.iload 6, 2) := by decide +kernel
theorem dX1_expected_115 : decode cX1_expected 115 = .ok (.iload 4, 2) := by decide +kernel
theorem dX1_expected_117 : decode cX1_expected 117 = .ok (.invokevirtual 63, 3) := by decide +kernel
theorem dX1_expected_120 : decode cX1_expected 120 = .ok (.iload_n 3, 1) := by decide +kernel
theorem dX1_expected_121 : decode cX1_expected 121 = .ok (.ifCond .eq 9, 3) := by decide +kernel
theorem dX1_expected_124 : decode cX1_expected 124 = .ok (.ldc2_w 37, 3) := by decide +kernel
theorem dX1_expected_127 : decode cX1_expected 127 = .ok (.goto 4, 3) := by decide +kernel
theorem dX1_expected_130 : decode cX1_expected 130 = .ok (.lconst 0, 1) := by decide +kernel
theorem dX1_expected_131 : decode cX1_expected 131 = .ok (.ladd, 1) := by decide +kernel
theorem dX1_expected_132 : decode cX1_expected 132 = .ok (.lstore 7, 2) := by decide +kernel
theorem dX1_expected_134 : decode cX1_expected 134 = .ok (.aload_n 0, 1) := by decide +kernel
theorem dX1_expected_135 : decode cX1_expected 135 = .ok (.getfield 18, 3) := by decide +kernel
theorem dX1_expected_138 : decode cX1_expected 138 = .ok (.iload 5, 2) := by decide +kernel
theorem dX1_expected_140 : decode cX1_expected 140 = .ok (.iload 6, 2) := by decide +kernel
theorem dX1_expected_142 : decode cX1_expected 142 = .ok (.invokestatic 21, 3) := by decide +kernel
theorem dX1_expected_145 : decode cX1_expected 145 = .ok (.lload 7, 2) := by decide +kernel
theorem dX1_expected_147 : decode cX1_expected 147 = .ok (.lastore, 1) := by decide +kernel
theorem dX1_expected_148 : decode cX1_expected 148 = .ok (.iinc 6 1, 3) := by decide +kernel
theorem dX1_expected_151 : decode cX1_expected 151 = .ok (.goto (-63), 3) := by decide +kernel
theorem dX1_expected_154 : decode cX1_expected 154 = .ok (.iinc 5 (-1), 3) := by decide +kernel
theorem dX1_expected_157 : decode cX1_expected 157 = .ok (.goto (-78), 3) := by decide +kernel
theorem dX1_expected_160 : decode cX1_expected 160 = .ok (.aload_n 0, 1) := by decide +kernel
theorem dX1_expected_161 : decode cX1_expected 161 = .ok (.getfield 18, 3) := by decide +kernel
theorem dX1_expected_164 : decode cX1_expected 164 = .ok (.iconst 1, 1) := by decide +kernel
theorem dX1_expected_165 : decode cX1_expected 165 = .ok (.iload_n 2, 1) := by decide +kernel
theorem dX1_expected_166 : decode cX1_expected 166 = .ok (.invokestatic 21, 3) := by decide +kernel
theorem dX1_expected_169 : decode cX1_expected 169 = .ok (.laload, 1) := by decide +kernel
theorem dX1_expected_170 : decode cX1_expected 170 = .ok (.lreturn, 1) := by decide +kernel
theorem dX1_valueOfSkipping_0 : decode cX1_valueOfSkipping 0 = .ok (.aload_n 0, 1) := by decide +kernel
theorem dX1_valueOfSkipping_1 : decode cX1_valueOfSkipping 1 = .ok (.aload_n 0, 1) := by decide +kernel
theorem dX1_valueOfSkipping_2 : decode cX1_valueOfSkipping 2 = .ok (.getfield 18, 3) := by decide +kernel
theorem dX1_valueOfSkipping_5 : decode cX1_valueOfSkipping 5 = .ok (.invokevirtual 47, 3) := by decide +kernel
theorem dX1_valueOfSkipping_8 : decode cX1_valueOfSkipping 8 = .ok (.aload_n 0, 1) := by decide +kernel
theorem dX1_valueOfSkipping_9 : decode cX1_valueOfSkipping 9 = .ok (.getfield 33, 3) := by decide +kernel
theorem dX1_valueOfSkipping_12 : decode cX1_valueOfSkipping 12 = .ok (.istore_n 3, 1) := by decide +kernel
theorem dX1_valueOfSkipping_13 : decode cX1_valueOfSkipping 13 = .ok (.iload_n 3, 1) := by decide +kernel
theorem dX1_valueOfSkipping_14 : decode cX1_valueOfSkipping 14 = .ok (.iconst 1, 1) := by decide +kernel
theorem dX1_valueOfSkipping_15 : decode cX1_valueOfSkipping 15 = .ok (.if_icmp .lt 105, 3) := by decide +kernel
theorem dX1_valueOfSkipping_18 : decode cX1_valueOfSkipping 18 = .ok (.iconst 1, 1) := by decide +kernel
theorem dX1_valueOfSkipping_19 : decode cX1_valueOfSkipping 19 = .ok (.istore 4, 2) := by decide +kernel
theorem dX1_valueOfSkipping_21 : decode cX1_valueOfSkipping 21 = .ok (.iload 4, 2) := by decide +kernel
theorem dX1_valueOfSkipping_23 : decode cX1_valueOfSkipping 23 = .ok (.iload_n 2, 1) := by decide +kernel
theorem dX1_valueOfSkipping_24 : decode cX1_valueOfSkipping 24 = .ok (.if_icmp .gt 90, 3) := by decide +kernel
theorem dX1_valueOfSkipping_27 : decode cX1_valueOfSkipping 27 = .ok (.aload_n 0, 1) := by decide +kernel
theorem dX1_valueOfSkipping_28 : decode cX1_valueOfSkipping 28 = .ok (.getfield 18, 3) := by decide +kernel
theorem dX1_valueOfSkipping_31 : decode cX1_valueOfSkipping 31 = .ok (.iload_n 3, 1) := by decide +kernel
theorem dX1_valueOfSkipping_32 : decode cX1_valueOfSkipping 32 = .ok (.iconst 1, 1) := by decide +kernel
theorem dX1_valueOfSkipping_33 : decode cX1_valueOfSkipping 33 = .ok (.iadd, 1) := by decide +kernel
theorem dX1_valueOfSkipping_34 : decode cX1_valueOfSkipping 34 = .ok (.iload 4, 2) := by decide +kernel
theorem dX1_valueOfSkipping_36 : decode cX1_valueOfSkipping 36 = .ok (.invokestatic 21, 3) := by decide +kernel
theorem dX1_valueOfSkipping_39 : decode cX1_valueOfSkipping 39 = .ok (.laload, 1) := by decide +kernel
theorem dX1_valueOfSkipping_40 : decode cX1_valueOfSkipping 40 = .ok (.lstore 5, 2) := by decide +kernel
theorem dX1_valueOfSkipping_42 : decode cX1_valueOfSkipping 42 = .ok (.lload 5, 2) := by decide +kernel
theorem dX1_valueOfSkipping_44 : decode cX1_valueOfSkipping 44 = .ok (.lstore 7, 2) := by decide +kernel
theorem dX1_valueOfSkipping_46 : decode cX1_valueOfSkipping 46 = .ok (.iload_n 3, 1) := by decide +kernel
theorem dX1_valueOfSkipping_47 : decode cX1_valueOfSkipping 47 = .ok (.iload_n 1, 1) := by decide +kernel
theorem dX1_valueOfSkipping_48 : decode cX1_valueOfSkipping 48 = .ok (.if_icmp .le 42, 3) := by decide +kernel
theorem dX1_valueOfSkipping_51 : decode cX1_valueOfSkipping 51 = .ok (.aload_n 0, 1) := by decide +kernel
theorem dX1_valueOfSkipping_52 : decode cX1_valueOfSkipping 52 = .ok (.iload_n 3, 1) := by decide +kernel
theorem dX1_valueOfSkipping_53 : decode cX1_valueOfSkipping 53 = .ok (.iconst 1, 1) := by decide +kernel
theorem dX1_valueOfSkipping_54 : decode cX1_valueOfSkipping 54 = .ok (.invokevirtual 25, 3) := by decide +kernel
theorem dX1_valueOfSkipping_57 : decode cX1_valueOfSkipping 57 = .ok (.aload_n 0, 1) := by decide +kernel
theorem dX1_valueOfSkipping_58 : decode cX1_valueOfSkipping 58 = .ok (.getfield 18, 3) := by decide +kernel
theorem dX1_valueOfSkipping_61 : decode cX1_valueOfSkipping 61 = .ok (.iload_n 3, 1) := by decide +kernel
theorem dX1_valueOfSkipping_62 : decode cX1_valueOfSkipping 62 = .ok (.iconst 1, 1) := by decide +kernel
theorem dX1_valueOfSkipping_63 : decode cX1_valueOfSkipping 63 = .ok (.iadd, 1) := by decide +kernel
theorem dX1_valueOfSkipping_64 : decode cX1_valueOfSkipping 64 = .ok (.iload 4, 2) := by decide +kernel
theorem dX1_valueOfSkipping_66 : decode cX1_valueOfSkipping 66 = .ok (.iconst 1, 1) := by decide +kernel
theorem dX1_valueOfSkipping_67 : decode cX1_valueOfSkipping 67 = .ok (.isub, 1) := by decide +kernel
theorem dX1_valueOfSkipping_68 : decode cX1_valueOfSkipping 68 = .ok (.invokestatic 21, 3) := by decide +kernel
theorem dX1_valueOfSkipping_71 : decode cX1_valueOfSkipping 71 = .ok (.laload, 1) := by decide +kernel
theorem dX1_valueOfSkipping_72 : decode cX1_valueOfSkipping 72 = .ok (.ladd, 1) := by decide +kernel
theorem dX1_valueOfSkipping_73 : decode cX1_valueOfSkipping 73 = .ok (.lstore 9, 2) := by decide +kernel
theorem dX1_valueOfSkipping_75 : decode cX1_valueOfSkipping 75 = .ok (.lload 9, 2) := by decide +kernel
theorem dX1_valueOfSkipping_77 : decode cX1_valueOfSkipping 77 = .ok (.iload_n 3, 1) := by decide +kernel
theorem dX1_valueOfSkipping_78 : decode cX1_valueOfSkipping 78 = .ok (.iconst 1, 1) := by decide +kernel
theorem dX1_valueOfSkipping_79 : decode cX1_valueOfSkipping 79 = .ok (.isub, 1) := by decide +kernel
theorem dX1_valueOfSkipping_80 : decode cX1_valueOfSkipping 80 = .ok (.i2l, 1) := by decide +kernel
theorem dX1_valueOfSkipping_81 : decode cX1_valueOfSkipping 81 = .ok (.lload 5, 2) := by decide +kernel
theorem dX1_valueOfSkipping_83 : decode cX1_valueOfSkipping 83 = .ok (.lmul, 1) := by decide +kernel
theorem dX1_valueOfSkipping_84 : decode cX1_valueOfSkipping 84 = .ok (.ladd, 1) := by decide +kernel
theorem dX1_valueOfSkipping_85 : decode cX1_valueOfSkipping 85 = .ok (.iload_n 3, 1) := by decide +kernel
theorem dX1_valueOfSkipping_86 : decode cX1_valueOfSkipping 86 = .ok (.i2l, 1) := by decide +kernel
theorem dX1_valueOfSkipping_87 : decode cX1_valueOfSkipping 87 = .ok (.ldiv, 1) := by decide +kernel
theorem dX1_valueOfSkipping_88 : decode cX1_valueOfSkipping 88 = .ok (.lstore 7, 2) := by decide +kernel
theorem dX1_valueOfSkipping_90 : decode cX1_valueOfSkipping 90 = .ok (.aload_n 0, 1) := by decide +kernel
theorem dX1_valueOfSkipping_91 : decode cX1_valueOfSkipping 91 = .ok (.getfield 18, 3) := by decide +kernel
theorem dX1_valueOfSkipping_94 : decode cX1_valueOfSkipping 94 = .ok (.iload_n 3, 1) := by decide +kernel
theorem dX1_valueOfSkipping_95 : decode cX1_valueOfSkipping 95 = .ok (.iload 4, 2) := by decide +kernel
theorem dX1_valueOfSkipping_97 : decode cX1_valueOfSkipping 97 = .ok (.invokestatic 21, 3) := by decide +kernel
theorem dX1_valueOfSkipping_100 : decode cX1_valueOfSkipping 100 = .ok (.lload 7, 2) := by decide +kernel
theorem dX1_valueOfSkipping_102 : decode cX1_valueOfSkipping 102 = .ok (.aload_n 0, 1) := by decide +kernel
theorem dX1_valueOfSkipping_103 : decode cX1_valueOfSkipping 103 = .ok (.getfield 39, 3) := by decide +kernel
theorem dX1_valueOfSkipping_106 : decode cX1_valueOfSkipping 106 = .ok (.lsub, 1) := by decide +kernel
theorem dX1_valueOfSkipping_107 : decode cX1_valueOfSkipping 107 = .ok (.lastore, 1) := by decide +kernel
theorem dX1_valueOfSkipping_108 : decode cX1_valueOfSkipping 108 = .ok (.iinc 4 1, 3) := by decide +kernel
theorem dX1_valueOfSkipping_111 : decode cX1_valueOfSkipping 111 = .ok (.goto (-90), 3) := by decide +kernel
theorem dX1_valueOfSkipping_114 : decode cX1_valueOfSkipping 114 = .ok (.iinc 3 (-1), 3) := by decide +kernel
theorem dX1_valueOfSkipping_117 : decode cX1_valueOfSkipping 117 = .ok (.goto (-104), 3) := by decide +kernel
theorem dX1_valueOfSkipping_120 : decode cX1_valueOfSkipping 120 = .ok (.aload_n 0, 1) := by decide +kernel
theorem dX1_valueOfSkipping_121 : decode cX1_valueOfSkipping 121 = .ok (.getfield 18, 3) := by decide +kernel
theorem dX1_valueOfSkipping_124 : decode cX1_valueOfSkipping 124 = .ok (.iconst 1, 1) := by decide +kernel
theorem dX1_valueOfSkipping_125 : decode cX1_valueOfSkipping 125 = .ok (.iload_n 2, 1) := by decide +kernel
theorem dX1_valueOfSkipping_126 : decode cX1_valueOfSkipping 126 = .ok (.invokestatic 21, 3) := by decide +kernel
theorem dX1_valueOfSkipping_129 : decode cX1_valueOfSkipping 129 = .ok (.laload, 1) := by decide +kernel
theorem dX1_valueOfSkipping_130 : decode cX1_valueOfSkipping 130 = .ok (.lreturn, 1) := by decide +kernel
theorem dX1_place_0 : decode cX1_place 0 = .ok (.iload_n 0, 1) := by decide +kernel
theorem dX1_place_1 : decode cX1_place 1 = .ok (.iconst 1, 1) := by decide +kernel
theorem dX1_place_2 : decode cX1_place 2 = .ok (.isub, 1) := by decide +kernel
theorem dX1_place_3 : decode cX1_place 3 = .ok (.iconst 4, 1) := by decide +kernel
theorem dX1_place_4 : decode cX1_place 4 = .ok (.imul, 1) := by decide +kernel
theorem dX1_place_5 : decode cX1_place 5 = .ok (.iload_n 1, 1) := by decide +kernel
theorem dX1_place_6 : decode cX1_place 6 = .ok (.iadd, 1) := by decide +kernel
theorem dX1_place_7 : decode cX1_place 7 = .ok (.ireturn, 1) := by decide +kernel
theorem dX1_binomial_0 : decode cX1_binomial 0 = .ok (.getstatic 67, 3) := by decide +kernel
theorem dX1_binomial_3 : decode cX1_binomial 3 = .ok (.iload_n 0, 1) := by decide +kernel
theorem dX1_binomial_4 : decode cX1_binomial 4 = .ok (.bipush 8, 2) := by decide +kernel
theorem dX1_binomial_6 : decode cX1_binomial 6 = .ok (.imul, 1) := by decide +kernel
theorem dX1_binomial_7 : decode cX1_binomial 7 = .ok (.iload_n 1, 1) := by decide +kernel
theorem dX1_binomial_8 : decode cX1_binomial 8 = .ok (.iadd, 1) := by decide +kernel
theorem dX1_binomial_9 : decode cX1_binomial 9 = .ok (.iaload, 1) := by decide +kernel
theorem dX1_binomial_10 : decode cX1_binomial 10 = .ok (.ireturn, 1) := by decide +kernel
theorem dX1_clearEnds_0 : decode cX1_clearEnds 0 = .ok (.iconst 1, 1) := by decide +kernel
theorem dX1_clearEnds_1 : decode cX1_clearEnds 1 = .ok (.istore_n 2, 1) := by decide +kernel
theorem dX1_clearEnds_2 : decode cX1_clearEnds 2 = .ok (.iload_n 2, 1) := by decide +kernel
theorem dX1_clearEnds_3 : decode cX1_clearEnds 3 = .ok (.aload_n 0, 1) := by decide +kernel
theorem dX1_clearEnds_4 : decode cX1_clearEnds 4 = .ok (.getfield 33, 3) := by decide +kernel
theorem dX1_clearEnds_7 : decode cX1_clearEnds 7 = .ok (.if_icmp .gt 17, 3) := by decide +kernel
theorem dX1_clearEnds_10 : decode cX1_clearEnds 10 = .ok (.aload_n 1, 1) := by decide +kernel
theorem dX1_clearEnds_11 : decode cX1_clearEnds 11 = .ok (.iload_n 2, 1) := by decide +kernel
theorem dX1_clearEnds_12 : decode cX1_clearEnds 12 = .ok (.iconst 0, 1) := by decide +kernel
theorem dX1_clearEnds_13 : decode cX1_clearEnds 13 = .ok (.invokestatic 21, 3) := by decide +kernel
theorem dX1_clearEnds_16 : decode cX1_clearEnds 16 = .ok (.lconst 0, 1) := by decide +kernel
theorem dX1_clearEnds_17 : decode cX1_clearEnds 17 = .ok (.lastore, 1) := by decide +kernel
theorem dX1_clearEnds_18 : decode cX1_clearEnds 18 = .ok (.iinc 2 1, 3) := by decide +kernel
theorem dX1_clearEnds_21 : decode cX1_clearEnds 21 = .ok (.goto (-19), 3) := by decide +kernel
theorem dX1_clearEnds_24 : decode cX1_clearEnds 24 = .ok (.iconst 0, 1) := by decide +kernel
theorem dX1_clearEnds_25 : decode cX1_clearEnds 25 = .ok (.istore_n 2, 1) := by decide +kernel
theorem dX1_clearEnds_26 : decode cX1_clearEnds 26 = .ok (.iload_n 2, 1) := by decide +kernel
theorem dX1_clearEnds_27 : decode cX1_clearEnds 27 = .ok (.iconst 3, 1) := by decide +kernel
theorem dX1_clearEnds_28 : decode cX1_clearEnds 28 = .ok (.if_icmp .gt 22, 3) := by decide +kernel
theorem dX1_clearEnds_31 : decode cX1_clearEnds 31 = .ok (.aload_n 1, 1) := by decide +kernel
theorem dX1_clearEnds_32 : decode cX1_clearEnds 32 = .ok (.aload_n 0, 1) := by decide +kernel
theorem dX1_clearEnds_33 : decode cX1_clearEnds 33 = .ok (.getfield 33, 3) := by decide +kernel
theorem dX1_clearEnds_36 : decode cX1_clearEnds 36 = .ok (.iconst 1, 1) := by decide +kernel
theorem dX1_clearEnds_37 : decode cX1_clearEnds 37 = .ok (.iadd, 1) := by decide +kernel
theorem dX1_clearEnds_38 : decode cX1_clearEnds 38 = .ok (.iload_n 2, 1) := by decide +kernel
theorem dX1_clearEnds_39 : decode cX1_clearEnds 39 = .ok (.invokestatic 21, 3) := by decide +kernel
theorem dX1_clearEnds_42 : decode cX1_clearEnds 42 = .ok (.lconst 0, 1) := by decide +kernel
theorem dX1_clearEnds_43 : decode cX1_clearEnds 43 = .ok (.lastore, 1) := by decide +kernel
theorem dX1_clearEnds_44 : decode cX1_clearEnds 44 = .ok (.iinc 2 1, 3) := by decide +kernel
theorem dX1_clearEnds_47 : decode cX1_clearEnds 47 = .ok (.goto (-21), 3) := by decide +kernel
theorem dX1_clearEnds_50 : decode cX1_clearEnds 50 = .ok (.return_, 1) := by decide +kernel
theorem dX1_computeWorth_0 : decode cX1_computeWorth 0 = .ok (.lconst 0, 1) := by decide +kernel
theorem dX1_computeWorth_1 : decode cX1_computeWorth 1 = .ok (.lstore 4, 2) := by decide +kernel
theorem dX1_computeWorth_3 : decode cX1_computeWorth 3 = .ok (.iload_n 3, 1) := by decide +kernel
theorem dX1_computeWorth_4 : decode cX1_computeWorth 4 = .ok (.istore 6, 2) := by decide +kernel
theorem dX1_computeWorth_6 : decode cX1_computeWorth 6 = .ok (.iload 6, 2) := by decide +kernel
theorem dX1_computeWorth_8 : decode cX1_computeWorth 8 = .ok (.aload_n 0, 1) := by decide +kernel
theorem dX1_computeWorth_9 : decode cX1_computeWorth 9 = .ok (.getfield 33, 3) := by decide +kernel
theorem dX1_computeWorth_12 : decode cX1_computeWorth 12 = .ok (.iload_n 2, 1) := by decide +kernel
theorem dX1_computeWorth_13 : decode cX1_computeWorth 13 = .ok (.isub, 1) := by decide +kernel
theorem dX1_computeWorth_14 : decode cX1_computeWorth 14 = .ok (.iload_n 3, 1) := by decide +kernel
theorem dX1_computeWorth_15 : decode cX1_computeWorth 15 = .ok (.iadd, 1) := by decide +kernel
theorem dX1_computeWorth_16 : decode cX1_computeWorth 16 = .ok (.if_icmp .gt 54, 3) := by decide +kernel
theorem dX1_computeWorth_19 : decode cX1_computeWorth 19 = .ok (.iload 6, 2) := by decide +kernel
theorem dX1_computeWorth_21 : decode cX1_computeWorth 21 = .ok (.iconst 1, 1) := by decide +kernel
theorem dX1_computeWorth_22 : decode cX1_computeWorth 22 = .ok (.isub, 1) := by decide +kernel
theorem dX1_computeWorth_23 : decode cX1_computeWorth 23 = .ok (.iload_n 3, 1) := by decide +kernel
theorem dX1_computeWorth_24 : decode cX1_computeWorth 24 = .ok (.iconst 1, 1) := by decide +kernel
theorem dX1_computeWorth_25 : decode cX1_computeWorth 25 = .ok (.isub, 1) := by decide +kernel
theorem dX1_computeWorth_26 : decode cX1_computeWorth 26 = .ok (.invokestatic 71, 3) := by decide +kernel
theorem dX1_computeWorth_29 : decode cX1_computeWorth 29 = .ok (.i2l, 1) := by decide +kernel
theorem dX1_computeWorth_30 : decode cX1_computeWorth 30 = .ok (.aload_n 0, 1) := by decide +kernel
theorem dX1_computeWorth_31 : decode cX1_computeWorth 31 = .ok (.getfield 33, 3) := by decide +kernel
theorem dX1_computeWorth_34 : decode cX1_computeWorth 34 = .ok (.iload 6, 2) := by decide +kernel
theorem dX1_computeWorth_36 : decode cX1_computeWorth 36 = .ok (.isub, 1) := by decide +kernel
theorem dX1_computeWorth_37 : decode cX1_computeWorth 37 = .ok (.iload_n 2, 1) := by decide +kernel
theorem dX1_computeWorth_38 : decode cX1_computeWorth 38 = .ok (.iload_n 3, 1) := by decide +kernel
theorem dX1_computeWorth_39 : decode cX1_computeWorth 39 = .ok (.isub, 1) := by decide +kernel
theorem dX1_computeWorth_40 : decode cX1_computeWorth 40 = .ok (.invokestatic 71, 3) := by decide +kernel
theorem dX1_computeWorth_43 : decode cX1_computeWorth 43 = .ok (.i2l, 1) := by decide +kernel
theorem dX1_computeWorth_44 : decode cX1_computeWorth 44 = .ok (.lmul, 1) := by decide +kernel
theorem dX1_computeWorth_45 : decode cX1_computeWorth 45 = .ok (.lstore 7, 2) := by decide +kernel
theorem dX1_computeWorth_47 : decode cX1_computeWorth 47 = .ok (.lload 4, 2) := by decide +kernel
theorem dX1_computeWorth_49 : decode cX1_computeWorth 49 = .ok (.aload_n 1, 1) := by decide +kernel
theorem dX1_computeWorth_50 : decode cX1_computeWorth 50 = .ok (.iconst 3, 1) := by decide +kernel
theorem dX1_computeWorth_51 : decode cX1_computeWorth 51 = .ok (.iload 6, 2) := by decide +kernel
theorem dX1_computeWorth_53 : decode cX1_computeWorth 53 = .ok (.iadd, 1) := by decide +kernel
theorem dX1_computeWorth_54 : decode cX1_computeWorth 54 = .ok (.iconst 1, 1) := by decide +kernel
theorem dX1_computeWorth_55 : decode cX1_computeWorth 55 = .ok (.isub, 1) := by decide +kernel
theorem dX1_computeWorth_56 : decode cX1_computeWorth 56 = .ok (.iaload, 1) := by decide +kernel
theorem dX1_computeWorth_57 : decode cX1_computeWorth 57 = .ok (.i2l, 1) := by decide +kernel
theorem dX1_computeWorth_58 : decode cX1_computeWorth 58 = .ok (.lload 7, 2) := by decide +kernel
theorem dX1_computeWorth_60 : decode cX1_computeWorth 60 = .ok (.lmul, 1) := by decide +kernel
theorem dX1_computeWorth_61 : decode cX1_computeWorth 61 = .ok (.ladd, 1) := by decide +kernel
theorem dX1_computeWorth_62 : decode cX1_computeWorth 62 = .ok (.lstore 4, 2) := by decide +kernel
theorem dX1_computeWorth_64 : decode cX1_computeWorth 64 = .ok (.iinc 6 1, 3) := by decide +kernel
theorem dX1_computeWorth_67 : decode cX1_computeWorth 67 = .ok (.goto (-61), 3) := by decide +kernel
theorem dX1_computeWorth_70 : decode cX1_computeWorth 70 = .ok (.aload_n 0, 1) := by decide +kernel
theorem dX1_computeWorth_71 : decode cX1_computeWorth 71 = .ok (.getfield 33, 3) := by decide +kernel
theorem dX1_computeWorth_74 : decode cX1_computeWorth 74 = .ok (.iload_n 2, 1) := by decide +kernel
theorem dX1_computeWorth_75 : decode cX1_computeWorth 75 = .ok (.invokestatic 71, 3) := by decide +kernel
theorem dX1_computeWorth_78 : decode cX1_computeWorth 78 = .ok (.i2l, 1) := by decide +kernel
theorem dX1_computeWorth_79 : decode cX1_computeWorth 79 = .ok (.lstore 6, 2) := by decide +kernel
theorem dX1_computeWorth_81 : decode cX1_computeWorth 81 = .ok (.lload 6, 2) := by decide +kernel
theorem dX1_computeWorth_83 : decode cX1_computeWorth 83 = .ok (.lconst 0, 1) := by decide +kernel
theorem dX1_computeWorth_84 : decode cX1_computeWorth 84 = .ok (.lcmp, 1) := by decide +kernel
theorem dX1_computeWorth_85 : decode cX1_computeWorth 85 = .ok (.ifCond .le 15, 3) := by decide +kernel
theorem dX1_computeWorth_88 : decode cX1_computeWorth 88 = .ok (.lload 4, 2) := by decide +kernel
theorem dX1_computeWorth_90 : decode cX1_computeWorth 90 = .ok (.ldc2_w 37, 3) := by decide +kernel
theorem dX1_computeWorth_93 : decode cX1_computeWorth 93 = .ok (.lload 6, 2) := by decide +kernel
theorem dX1_computeWorth_95 : decode cX1_computeWorth 95 = .ok (.ldiv, 1) := by decide +kernel
theorem dX1_computeWorth_96 : decode cX1_computeWorth 96 = .ok (.lmul, 1) := by decide +kernel
theorem dX1_computeWorth_97 : decode cX1_computeWorth 97 = .ok (.goto 4, 3) := by decide +kernel
theorem dX1_computeWorth_100 : decode cX1_computeWorth 100 = .ok (.lconst 0, 1) := by decide +kernel
theorem dX1_computeWorth_101 : decode cX1_computeWorth 101 = .ok (.lreturn, 1) := by decide +kernel
theorem dX1_meanOfBest_0 : decode cX1_meanOfBest 0 = .ok (.aload_n 0, 1) := by decide +kernel
theorem dX1_meanOfBest_1 : decode cX1_meanOfBest 1 = .ok (.getfield 15, 3) := by decide +kernel
theorem dX1_meanOfBest_4 : decode cX1_meanOfBest 4 = .ok (.iload_n 1, 1) := by decide +kernel
theorem dX1_meanOfBest_5 : decode cX1_meanOfBest 5 = .ok (.iconst 1, 1) := by decide +kernel
theorem dX1_meanOfBest_6 : decode cX1_meanOfBest 6 = .ok (.iadd, 1) := by decide +kernel
theorem dX1_meanOfBest_7 : decode cX1_meanOfBest 7 = .ok (.iload_n 2, 1) := by decide +kernel
theorem dX1_meanOfBest_8 : decode cX1_meanOfBest 8 = .ok (.invokestatic 21, 3) := by decide +kernel
theorem dX1_meanOfBest_11 : decode cX1_meanOfBest 11 = .ok (.laload, 1) := by decide +kernel
theorem dX1_meanOfBest_12 : decode cX1_meanOfBest 12 = .ok (.lstore_n 3, 1) := by decide +kernel
theorem dX1_meanOfBest_13 : decode cX1_meanOfBest 13 = .ok (.aload_n 0, 1) := by decide +kernel
theorem dX1_meanOfBest_14 : decode cX1_meanOfBest 14 = .ok (.getfield 15, 3) := by decide +kernel
theorem dX1_meanOfBest_17 : decode cX1_meanOfBest 17 = .ok (.iload_n 1, 1) := by decide +kernel
theorem dX1_meanOfBest_18 : decode cX1_meanOfBest 18 = .ok (.iconst 1, 1) := by decide +kernel
theorem dX1_meanOfBest_19 : decode cX1_meanOfBest 19 = .ok (.iadd, 1) := by decide +kernel
theorem dX1_meanOfBest_20 : decode cX1_meanOfBest 20 = .ok (.iload_n 2, 1) := by decide +kernel
theorem dX1_meanOfBest_21 : decode cX1_meanOfBest 21 = .ok (.iconst 1, 1) := by decide +kernel
theorem dX1_meanOfBest_22 : decode cX1_meanOfBest 22 = .ok (.isub, 1) := by decide +kernel
theorem dX1_meanOfBest_23 : decode cX1_meanOfBest 23 = .ok (.invokestatic 21, 3) := by decide +kernel
theorem dX1_meanOfBest_26 : decode cX1_meanOfBest 26 = .ok (.laload, 1) := by decide +kernel
theorem dX1_meanOfBest_27 : decode cX1_meanOfBest 27 = .ok (.lstore 5, 2) := by decide +kernel
theorem dX1_meanOfBest_29 : decode cX1_meanOfBest 29 = .ok (.lconst 0, 1) := by decide +kernel
theorem dX1_meanOfBest_30 : decode cX1_meanOfBest 30 = .ok (.lstore 7, 2) := by decide +kernel
theorem dX1_meanOfBest_32 : decode cX1_meanOfBest 32 = .ok (.iconst 1, 1) := by decide +kernel
theorem dX1_meanOfBest_33 : decode cX1_meanOfBest 33 = .ok (.istore 9, 2) := by decide +kernel
theorem dX1_meanOfBest_35 : decode cX1_meanOfBest 35 = .ok (.iload 9, 2) := by decide +kernel
theorem dX1_meanOfBest_37 : decode cX1_meanOfBest 37 = .ok (.iload_n 1, 1) := by decide +kernel
theorem dX1_meanOfBest_38 : decode cX1_meanOfBest 38 = .ok (.if_icmp .gt 28, 3) := by decide +kernel
theorem dX1_meanOfBest_41 : decode cX1_meanOfBest 41 = .ok (.lload 7, 2) := by decide +kernel
theorem dX1_meanOfBest_43 : decode cX1_meanOfBest 43 = .ok (.lload_n 3, 1) := by decide +kernel
theorem dX1_meanOfBest_44 : decode cX1_meanOfBest 44 = .ok (.aload_n 0, 1) := by decide +kernel
theorem dX1_meanOfBest_45 : decode cX1_meanOfBest 45 = .ok (.iload_n 1, 1) := by decide +kernel
theorem dX1_meanOfBest_46 : decode cX1_meanOfBest 46 = .ok (.iload 9, 2) := by decide +kernel
theorem dX1_meanOfBest_48 : decode cX1_meanOfBest 48 = .ok (.invokevirtual 25, 3) := by decide +kernel
theorem dX1_meanOfBest_51 : decode cX1_meanOfBest 51 = .ok (.lload 5, 2) := by decide +kernel
theorem dX1_meanOfBest_53 : decode cX1_meanOfBest 53 = .ok (.ladd, 1) := by decide +kernel
theorem dX1_meanOfBest_54 : decode cX1_meanOfBest 54 = .ok (.invokestatic 54, 3) := by decide +kernel
theorem dX1_meanOfBest_57 : decode cX1_meanOfBest 57 = .ok (.ladd, 1) := by decide +kernel
theorem dX1_meanOfBest_58 : decode cX1_meanOfBest 58 = .ok (.lstore 7, 2) := by decide +kernel
theorem dX1_meanOfBest_60 : decode cX1_meanOfBest 60 = .ok (.iinc 9 1, 3) := by decide +kernel
theorem dX1_meanOfBest_63 : decode cX1_meanOfBest 63 = .ok (.goto (-28), 3) := by decide +kernel
theorem dX1_meanOfBest_66 : decode cX1_meanOfBest 66 = .ok (.lload 7, 2) := by decide +kernel
theorem dX1_meanOfBest_68 : decode cX1_meanOfBest 68 = .ok (.iload_n 1, 1) := by decide +kernel
theorem dX1_meanOfBest_69 : decode cX1_meanOfBest 69 = .ok (.i2l, 1) := by decide +kernel
theorem dX1_meanOfBest_70 : decode cX1_meanOfBest 70 = .ok (.ldiv, 1) := by decide +kernel
theorem dX1_meanOfBest_71 : decode cX1_meanOfBest 71 = .ok (.lreturn, 1) := by decide +kernel
theorem dX1_meanFollowed_0 : decode cX1_meanFollowed 0 = .ok (.lconst 0, 1) := by decide +kernel
theorem dX1_meanFollowed_1 : decode cX1_meanFollowed 1 = .ok (.lstore 4, 2) := by decide +kernel
theorem dX1_meanFollowed_3 : decode cX1_meanFollowed 3 = .ok (.iconst 1, 1) := by decide +kernel
theorem dX1_meanFollowed_4 : decode cX1_meanFollowed 4 = .ok (.istore 6, 2) := by decide +kernel
theorem dX1_meanFollowed_6 : decode cX1_meanFollowed 6 = .ok (.iload 6, 2) := by decide +kernel
theorem dX1_meanFollowed_8 : decode cX1_meanFollowed 8 = .ok (.iload_n 1, 1) := by decide +kernel
theorem dX1_meanFollowed_9 : decode cX1_meanFollowed 9 = .ok (.if_icmp .gt 71, 3) := by decide +kernel
theorem dX1_meanFollowed_12 : decode cX1_meanFollowed 12 = .ok (.aload_n 0, 1) := by decide +kernel
theorem dX1_meanFollowed_13 : decode cX1_meanFollowed 13 = .ok (.iload_n 1, 1) := by decide +kernel
theorem dX1_meanFollowed_14 : decode cX1_meanFollowed 14 = .ok (.iload_n 2, 1) := by decide +kernel
theorem dX1_meanFollowed_15 : decode cX1_meanFollowed 15 = .ok (.iload 6, 2) := by decide +kernel
theorem dX1_meanFollowed_17 : decode cX1_meanFollowed 17 = .ok (.invokevirtual 74, 3) := by decide +kernel
theorem dX1_meanFollowed_20 : decode cX1_meanFollowed 20 = .ok (.ifCond .eq 37, 3) := by decide +kernel
theorem dX1_meanFollowed_23 : decode cX1_meanFollowed 23 = .ok (.lload 4, 2) := by decide +kernel
theorem dX1_meanFollowed_25 : decode cX1_meanFollowed 25 = .ok (.aload_n 0, 1) := by decide +kernel
theorem dX1_meanFollowed_26 : decode cX1_meanFollowed 26 = .ok (.getfield 18, 3) := by decide +kernel
theorem dX1_meanFollowed_29 : decode cX1_meanFollowed 29 = .ok (.iload_n 1, 1) := by decide +kernel
theorem dX1_meanFollowed_30 : decode cX1_meanFollowed 30 = .ok (.iconst 1, 1) := by decide +kernel
theorem dX1_meanFollowed_31 : decode cX1_meanFollowed 31 = .ok (.iadd, 1) := by decide +kernel
theorem dX1_meanFollowed_32 : decode cX1_meanFollowed 32 = .ok (.iload_n 2, 1) := by decide +kernel
theorem dX1_meanFollowed_33 : decode cX1_meanFollowed 33 = .ok (.iconst 1, 1) := by decide +kernel
theorem dX1_meanFollowed_34 : decode cX1_meanFollowed 34 = .ok (.isub, 1) := by decide +kernel
theorem dX1_meanFollowed_35 : decode cX1_meanFollowed 35 = .ok (.invokestatic 21, 3) := by decide +kernel
theorem dX1_meanFollowed_38 : decode cX1_meanFollowed 38 = .ok (.laload, 1) := by decide +kernel
theorem dX1_meanFollowed_39 : decode cX1_meanFollowed 39 = .ok (.iload_n 3, 1) := by decide +kernel
theorem dX1_meanFollowed_40 : decode cX1_meanFollowed 40 = .ok (.ifCond .eq 9, 3) := by decide +kernel
theorem dX1_meanFollowed_43 : decode cX1_meanFollowed 43 = .ok (.ldc2_w 37, 3) := by decide +kernel
theorem dX1_meanFollowed_46 : decode cX1_meanFollowed 46 = .ok (.goto 4, 3) := by decide +kernel
theorem dX1_meanFollowed_49 : decode cX1_meanFollowed 49 = .ok (.lconst 0, 1) := by decide +kernel
theorem dX1_meanFollowed_50 : decode cX1_meanFollowed 50 = .ok (.ladd, 1) := by decide +kernel
theorem dX1_meanFollowed_51 : decode cX1_meanFollowed 51 = .ok (.ladd, 1) := by decide +kernel
theorem dX1_meanFollowed_52 : decode cX1_meanFollowed 52 = .ok (.lstore 4, 2) := by decide +kernel
theorem dX1_meanFollowed_54 : decode cX1_meanFollowed 54 = .ok (.goto 20, 3) := by decide +kernel
theorem dX1_meanFollowed_57 : decode cX1_meanFollowed 57 = .ok (.lload 4, 2) := by decide +kernel
theorem dX1_meanFollowed_59 : decode cX1_meanFollowed 59 = .ok (.aload_n 0, 1) := by decide +kernel
theorem dX1_meanFollowed_60 : decode cX1_meanFollowed 60 = .ok (.getfield 18, 3) := by decide +kernel
theorem dX1_meanFollowed_63 : decode cX1_meanFollowed 63 = .ok (.iload_n 1, 1) := by decide +kernel
theorem dX1_meanFollowed_64 : decode cX1_meanFollowed 64 = .ok (.iconst 1, 1) := by decide +kernel
theorem dX1_meanFollowed_65 : decode cX1_meanFollowed 65 = .ok (.iadd, 1) := by decide +kernel
theorem dX1_meanFollowed_66 : decode cX1_meanFollowed 66 = .ok (.iload_n 2, 1) := by decide +kernel
theorem dX1_meanFollowed_67 : decode cX1_meanFollowed 67 = .ok (.invokestatic 21, 3) := by decide +kernel
theorem dX1_meanFollowed_70 : decode cX1_meanFollowed 70 = .ok (.laload, 1) := by decide +kernel
theorem dX1_meanFollowed_71 : decode cX1_meanFollowed 71 = .ok (.ladd, 1) := by decide +kernel
theorem dX1_meanFollowed_72 : decode cX1_meanFollowed 72 = .ok (.lstore 4, 2) := by decide +kernel
theorem dX1_meanFollowed_74 : decode cX1_meanFollowed 74 = .ok (.iinc 6 1, 3) := by decide +kernel
theorem dX1_meanFollowed_77 : decode cX1_meanFollowed 77 = .ok (.goto (-71), 3) := by decide +kernel
theorem dX1_meanFollowed_80 : decode cX1_meanFollowed 80 = .ok (.lload 4, 2) := by decide +kernel
theorem dX1_meanFollowed_82 : decode cX1_meanFollowed 82 = .ok (.iload_n 1, 1) := by decide +kernel
theorem dX1_meanFollowed_83 : decode cX1_meanFollowed 83 = .ok (.i2l, 1) := by decide +kernel
theorem dX1_meanFollowed_84 : decode cX1_meanFollowed 84 = .ok (.ldiv, 1) := by decide +kernel
theorem dX1_meanFollowed_85 : decode cX1_meanFollowed 85 = .ok (.lreturn, 1) := by decide +kernel
theorem dX2_init_0 : decode cX2_init 0 = .ok (.aload_n 0, 1) := by decide +kernel
theorem dX2_init_1 : decode cX2_init 1 = .ok (.invokespecial 3, 3) := by decide +kernel
theorem dX2_init_4 : decode cX2_init 4 = .ok (.aload_n 0, 1) := by decide +kernel
theorem dX2_init_5 : decode cX2_init 5 = .ok (.iconst 5, 1) := by decide +kernel
theorem dX2_init_6 : decode cX2_init 6 = .ok (.newarray .int, 2) := by decide +kernel
theorem dX2_init_8 : decode cX2_init 8 = .ok (.putfield 11, 3) := by decide +kernel
theorem dX2_init_11 : decode cX2_init 11 = .ok (.aload_n 0, 1) := by decide +kernel
theorem dX2_init_12 : decode cX2_init 12 = .ok (.bipush 8, 2) := by decide +kernel
theorem dX2_init_14 : decode cX2_init 14 = .ok (.newarray .int, 2) := by decide +kernel
theorem dX2_init_16 : decode cX2_init 16 = .ok (.putfield 15, 3) := by decide +kernel
theorem dX2_init_19 : decode cX2_init 19 = .ok (.aload_n 0, 1) := by decide +kernel
theorem dX2_init_20 : decode cX2_init 20 = .ok (.bipush 8, 2) := by decide +kernel
theorem dX2_init_22 : decode cX2_init 22 = .ok (.newarray .int, 2) := by decide +kernel
theorem dX2_init_24 : decode cX2_init 24 = .ok (.putfield 18, 3) := by decide +kernel
theorem dX2_init_27 : decode cX2_init 27 = .ok (.return_, 1) := by decide +kernel
theorem dX2_resultOf_0 : decode cX2_resultOf 0 = .ok (.aload_n 0, 1) := by decide +kernel
theorem dX2_resultOf_1 : decode cX2_resultOf 1 = .ok (.getfield 11, 3) := by decide +kernel
theorem dX2_resultOf_4 : decode cX2_resultOf 4 = .ok (.iload_n 1, 1) := by decide +kernel
theorem dX2_resultOf_5 : decode cX2_resultOf 5 = .ok (.iaload, 1) := by decide +kernel
theorem dX2_resultOf_6 : decode cX2_resultOf 6 = .ok (.ireturn, 1) := by decide +kernel
theorem dX2_runRanks_0 : decode cX2_runRanks 0 = .ok (.aload_n 0, 1) := by decide +kernel
theorem dX2_runRanks_1 : decode cX2_runRanks 1 = .ok (.iload_n 3, 1) := by decide +kernel
theorem dX2_runRanks_2 : decode cX2_runRanks 2 = .ok (.invokevirtual 21, 3) := by decide +kernel
theorem dX2_runRanks_5 : decode cX2_runRanks 5 = .ok (.aload_n 2, 1) := by decide +kernel
theorem dX2_runRanks_6 : decode cX2_runRanks 6 = .ok (.iconst 0, 1) := by decide +kernel
theorem dX2_runRanks_7 : decode cX2_runRanks 7 = .ok (.iaload, 1) := by decide +kernel
theorem dX2_runRanks_8 : decode cX2_runRanks 8 = .ok (.istore 4, 2) := by decide +kernel
theorem dX2_runRanks_10 : decode cX2_runRanks 10 = .ok (.aload_n 0, 1) := by decide +kernel
theorem dX2_runRanks_11 : decode cX2_runRanks 11 = .ok (.iload 4, 2) := by decide +kernel
theorem dX2_runRanks_13 : decode cX2_runRanks 13 = .ok (.invokevirtual 25, 3) := by decide +kernel
theorem dX2_runRanks_16 : decode cX2_runRanks 16 = .ok (.aload_n 2, 1) := by decide +kernel
theorem dX2_runRanks_17 : decode cX2_runRanks 17 = .ok (.iconst 1, 1) := by decide +kernel
theorem dX2_runRanks_18 : decode cX2_runRanks 18 = .ok (.iaload, 1) := by decide +kernel
theorem dX2_runRanks_19 : decode cX2_runRanks 19 = .ok (.istore 5, 2) := by decide +kernel
theorem dX2_runRanks_21 : decode cX2_runRanks 21 = .ok (.iconst 1, 1) := by decide +kernel
theorem dX2_runRanks_22 : decode cX2_runRanks 22 = .ok (.istore 6, 2) := by decide +kernel
theorem dX2_runRanks_24 : decode cX2_runRanks 24 = .ok (.iload 6, 2) := by decide +kernel
theorem dX2_runRanks_26 : decode cX2_runRanks 26 = .ok (.iload 4, 2) := by decide +kernel
theorem dX2_runRanks_28 : decode cX2_runRanks 28 = .ok (.if_icmp .gt 90, 3) := by decide +kernel
theorem dX2_runRanks_31 : decode cX2_runRanks 31 = .ok (.aload_n 1, 1) := by decide +kernel
theorem dX2_runRanks_32 : decode cX2_runRanks 32 = .ok (.iload 6, 2) := by decide +kernel
theorem dX2_runRanks_34 : decode cX2_runRanks 34 = .ok (.iload 5, 2) := by decide +kernel
theorem dX2_runRanks_36 : decode cX2_runRanks 36 = .ok (.invokevirtual 28, 3) := by decide +kernel
theorem dX2_runRanks_39 : decode cX2_runRanks 39 = .ok (.lconst 0, 1) := by decide +kernel
theorem dX2_runRanks_40 : decode cX2_runRanks 40 = .ok (.lcmp, 1) := by decide +kernel
theorem dX2_runRanks_41 : decode cX2_runRanks 41 = .ok (.ifCond .eq 77, 3) := by decide +kernel
theorem dX2_runRanks_44 : decode cX2_runRanks 44 = .ok (.aload_n 0, 1) := by decide +kernel
theorem dX2_runRanks_45 : decode cX2_runRanks 45 = .ok (.getfield 11, 3) := by decide +kernel
theorem dX2_runRanks_48 : decode cX2_runRanks 48 = .ok (.iconst 1, 1) := by decide +kernel
theorem dX2_runRanks_49 : decode cX2_runRanks 49 = .ok (.dup2, 1) := by decide +kernel
theorem dX2_runRanks_50 : decode cX2_runRanks 50 = .ok (.iaload, 1) := by decide +kernel
theorem dX2_runRanks_51 : decode cX2_runRanks 51 = .ok (.iconst 1, 1) := by decide +kernel
theorem dX2_runRanks_52 : decode cX2_runRanks 52 = .ok (.iadd, 1) := by decide +kernel
theorem dX2_runRanks_53 : decode cX2_runRanks 53 = .ok (.iastore, 1) := by decide +kernel
theorem dX2_runRanks_54 : decode cX2_runRanks 54 = .ok (.aload_n 1, 1) := by decide +kernel
theorem dX2_runRanks_55 : decode cX2_runRanks 55 = .ok (.iload 6, 2) := by decide +kernel
theorem dX2_runRanks_57 : decode cX2_runRanks 57 = .ok (.iload 5, 2) := by decide +kernel
theorem dX2_runRanks_59 : decode cX2_runRanks 59 = .ok (.aload_n 0, 1) := by decide +kernel
theorem dX2_runRanks_60 : decode cX2_runRanks 60 = .ok (.getfield 15, 3) := by decide +kernel
theorem dX2_runRanks_63 : decode cX2_runRanks 63 = .ok (.iload 6, 2) := by decide +kernel
theorem dX2_runRanks_65 : decode cX2_runRanks 65 = .ok (.iaload, 1) := by decide +kernel
theorem dX2_runRanks_66 : decode cX2_runRanks 66 = .ok (.invokevirtual 34, 3) := by decide +kernel
theorem dX2_runRanks_69 : decode cX2_runRanks 69 = .ok (.ifCond .eq 43, 3) := by decide +kernel
theorem dX2_runRanks_72 : decode cX2_runRanks 72 = .ok (.aload_n 0, 1) := by decide +kernel
theorem dX2_runRanks_73 : decode cX2_runRanks 73 = .ok (.getfield 11, 3) := by decide +kernel
theorem dX2_runRanks_76 : decode cX2_runRanks 76 = .ok (.iconst 0, 1) := by decide +kernel
theorem dX2_runRanks_77 : decode cX2_runRanks 77 = .ok (.dup2, 1) := by decide +kernel
theorem dX2_runRanks_78 : decode cX2_runRanks 78 = .ok (.iaload, 1) := by decide +kernel
theorem dX2_runRanks_79 : decode cX2_runRanks 79 = .ok (.aload_n 2, 1) := by decide +kernel
theorem dX2_runRanks_80 : decode cX2_runRanks 80 = .ok (.iconst 3, 1) := by decide +kernel
theorem dX2_runRanks_81 : decode cX2_runRanks 81 = .ok (.aload_n 0, 1) := by decide +kernel
theorem dX2_runRanks_82 : decode cX2_runRanks 82 = .ok (.getfield 18, 3) := by decide +kernel
theorem dX2_runRanks_85 : decode cX2_runRanks 85 = .ok (.iload 6, 2) := by decide +kernel
theorem dX2_runRanks_87 : decode cX2_runRanks 87 = .ok (.iaload, 1) := by decide +kernel
theorem dX2_runRanks_88 : decode cX2_runRanks 88 = .ok (.iadd, 1) := by decide +kernel
theorem dX2_runRanks_89 : decode cX2_runRanks 89 = .ok (.iconst 1, 1) := by decide +kernel
theorem dX2_runRanks_90 : decode cX2_runRanks 90 = .ok (.isub, 1) := by decide +kernel
theorem dX2_runRanks_91 : decode cX2_runRanks 91 = .ok (.iaload, 1) := by decide +kernel
theorem dX2_runRanks_92 : decode cX2_runRanks 92 = .ok (.iadd, 1) := by decide +kernel
theorem dX2_runRanks_93 : decode cX2_runRanks 93 = .ok (.iastore, 1) := by decide +kernel
theorem dX2_runRanks_94 : decode cX2_runRanks 94 = .ok (.aload_n 0, 1) := by decide +kernel
theorem dX2_runRanks_95 : decode cX2_runRanks 95 = .ok (.getfield 11, 3) := by decide +kernel
theorem dX2_runRanks_98 : decode cX2_runRanks 98 = .ok (.iconst 2, 1) := by decide +kernel
theorem dX2_runRanks_99 : decode cX2_runRanks 99 = .ok (.dup2, 1) := by decide +kernel
theorem dX2_runRanks_100 : decode cX2_runRanks 100 = .ok (.iaload, 1) := by decide +kernel
theorem dX2_runRanks_101 : decode cX2_runRanks 101 = .ok (.iconst 1, 1) := by decide +kernel
theorem dX2_runRanks_102 : decode cX2_runRanks 102 = .ok (.iload 6, 2) := by decide +kernel
theorem dX2_runRanks_104 : decode cX2_runRanks 104 = .ok (.iconst 1, 1) := by decide +kernel
theorem dX2_runRanks_105 : decode cX2_runRanks 105 = .ok (.isub, 1) := by decide +kernel
theorem dX2_runRanks_106 : decode cX2_runRanks 106 = .ok (.ishl, 1) := by decide +kernel
theorem dX2_runRanks_107 : decode cX2_runRanks 107 = .ok (.ior, 1) := by decide +kernel
theorem dX2_runRanks_108 : decode cX2_runRanks 108 = .ok (.iastore, 1) := by decide +kernel
theorem dX2_runRanks_109 : decode cX2_runRanks 109 = .ok (.iinc 5 (-1), 3) := by decide +kernel
theorem dX2_runRanks_112 : decode cX2_runRanks 112 = .ok (.iinc 6 1, 3) := by decide +kernel
theorem dX2_runRanks_115 : decode cX2_runRanks 115 = .ok (.goto (-91), 3) := by decide +kernel
theorem dX2_runRanks_118 : decode cX2_runRanks 118 = .ok (.return_, 1) := by decide +kernel
theorem dX2_runValues_0 : decode cX2_runValues 0 = .ok (.aload_n 0, 1) := by decide +kernel
theorem dX2_runValues_1 : decode cX2_runValues 1 = .ok (.iload_n 3, 1) := by decide +kernel
theorem dX2_runValues_2 : decode cX2_runValues 2 = .ok (.invokevirtual 21, 3) := by decide +kernel
theorem dX2_runValues_5 : decode cX2_runValues 5 = .ok (.aload_n 2, 1) := by decide +kernel
theorem dX2_runValues_6 : decode cX2_runValues 6 = .ok (.iconst 1, 1) := by decide +kernel
theorem dX2_runValues_7 : decode cX2_runValues 7 = .ok (.iaload, 1) := by decide +kernel
theorem dX2_runValues_8 : decode cX2_runValues 8 = .ok (.istore 4, 2) := by decide +kernel
theorem dX2_runValues_10 : decode cX2_runValues 10 = .ok (.iconst 5, 1) := by decide +kernel
theorem dX2_runValues_11 : decode cX2_runValues 11 = .ok (.istore 5, 2) := by decide +kernel
theorem dX2_runValues_13 : decode cX2_runValues 13 = .ok (.iconst 5, 1) := by decide +kernel
theorem dX2_runValues_14 : decode cX2_runValues 14 = .ok (.istore 6, 2) := by decide +kernel
theorem dX2_runValues_16 : decode cX2_runValues 16 = .ok (.iconst 1, 1) := by decide +kernel
theorem dX2_runValues_17 : decode cX2_runValues 17 = .ok (.istore 7, 2) := by decide +kernel
theorem dX2_runValues_19 : decode cX2_runValues 19 = .ok (.iload 7, 2) := by decide +kernel
theorem dX2_runValues_21 : decode cX2_runValues 21 = .ok (.aload_n 2, 1) := by decide +kernel
theorem dX2_runValues_22 : decode cX2_runValues 22 = .ok (.iconst 0, 1) := by decide +kernel
theorem dX2_runValues_23 : decode cX2_runValues 23 = .ok (.iaload, 1) := by decide +kernel
theorem dX2_runValues_24 : decode cX2_runValues 24 = .ok (.iconst 1, 1) := by decide +kernel
theorem dX2_runValues_25 : decode cX2_runValues 25 = .ok (.iadd, 1) := by decide +kernel
theorem dX2_runValues_26 : decode cX2_runValues 26 = .ok (.if_icmp .gt 209, 3) := by decide +kernel
theorem dX2_runValues_29 : decode cX2_runValues 29 = .ok (.aload_n 1, 1) := by decide +kernel
theorem dX2_runValues_30 : decode cX2_runValues 30 = .ok (.iload 7, 2) := by decide +kernel
theorem dX2_runValues_32 : decode cX2_runValues 32 = .ok (.iload 4, 2) := by decide +kernel
theorem dX2_runValues_34 : decode cX2_runValues 34 = .ok (.iload 5, 2) := by decide +kernel
theorem dX2_runValues_36 : decode cX2_runValues 36 = .ok (.iload 6, 2) := by decide +kernel
theorem dX2_runValues_38 : decode cX2_runValues 38 = .ok (.invokevirtual 38, 3) := by decide +kernel
theorem dX2_runValues_41 : decode cX2_runValues 41 = .ok (.istore 8, 2) := by decide +kernel
theorem dX2_runValues_43 : decode cX2_runValues 43 = .ok (.iload 8, 2) := by decide +kernel
theorem dX2_runValues_45 : decode cX2_runValues 45 = .ok (.ifCond .eq 81, 3) := by decide +kernel
theorem dX2_runValues_48 : decode cX2_runValues 48 = .ok (.iload 8, 2) := by decide +kernel
theorem dX2_runValues_50 : decode cX2_runValues 50 = .ok (.iconst 1, 1) := by decide +kernel
theorem dX2_runValues_51 : decode cX2_runValues 51 = .ok (.if_icmp .ne 8, 3) := by decide +kernel
theorem dX2_runValues_54 : decode cX2_runValues 54 = .ok (.iload 5, 2) := by decide +kernel
theorem dX2_runValues_56 : decode cX2_runValues 56 = .ok (.goto 5, 3) := by decide +kernel
theorem dX2_runValues_59 : decode cX2_runValues 59 = .ok (.iload 6, 2) := by decide +kernel
theorem dX2_runValues_61 : decode cX2_runValues 61 = .ok (.istore 9, 2) := by decide +kernel
theorem dX2_runValues_63 : decode cX2_runValues 63 = .ok (.aload_n 0, 1) := by decide +kernel
theorem dX2_runValues_64 : decode cX2_runValues 64 = .ok (.aload_n 2, 1) := by decide +kernel
theorem dX2_runValues_65 : decode cX2_runValues 65 = .ok (.bipush 20, 2) := by decide +kernel
theorem dX2_runValues_67 : decode cX2_runValues 67 = .ok (.iload 8, 2) := by decide +kernel
theorem dX2_runValues_69 : decode cX2_runValues 69 = .ok (.iadd, 1) := by decide +kernel
theorem dX2_runValues_70 : decode cX2_runValues 70 = .ok (.iconst 1, 1) := by decide +kernel
theorem dX2_runValues_71 : decode cX2_runValues 71 = .ok (.isub, 1) := by decide +kernel
theorem dX2_runValues_72 : decode cX2_runValues 72 = .ok (.iaload, 1) := by decide +kernel
theorem dX2_runValues_73 : decode cX2_runValues 73 = .ok (.invokevirtual 44, 3) := by decide +kernel
theorem dX2_runValues_76 : decode cX2_runValues 76 = .ok (.ifCond .eq 22, 3) := by decide +kernel
theorem dX2_runValues_79 : decode cX2_runValues 79 = .ok (.aload_n 0, 1) := by decide +kernel
theorem dX2_runValues_80 : decode cX2_runValues 80 = .ok (.getfield 11, 3) := by decide +kernel
theorem dX2_runValues_83 : decode cX2_runValues 83 = .ok (.iconst 0, 1) := by decide +kernel
theorem dX2_runValues_84 : decode cX2_runValues 84 = .ok (.dup2, 1) := by decide +kernel
theorem dX2_runValues_85 : decode cX2_runValues 85 = .ok (.iaload, 1) := by decide +kernel
theorem dX2_runValues_86 : decode cX2_runValues 86 = .ok (.aload_n 2, 1) := by decide +kernel
theorem dX2_runValues_87 : decode cX2_runValues 87 = .ok (.bipush 10, 2) := by decide +kernel
theorem dX2_runValues_89 : decode cX2_runValues 89 = .ok (.iload 9, 2) := by decide +kernel
theorem dX2_runValues_91 : decode cX2_runValues 91 = .ok (.iadd, 1) := by decide +kernel
theorem dX2_runValues_92 : decode cX2_runValues 92 = .ok (.iaload, 1) := by decide +kernel
theorem dX2_runValues_93 : decode cX2_runValues 93 = .ok (.iadd, 1) := by decide +kernel
theorem dX2_runValues_94 : decode cX2_runValues 94 = .ok (.iastore, 1) := by decide +kernel
theorem dX2_runValues_95 : decode cX2_runValues 95 = .ok (.iinc 4 (-1), 3) := by decide +kernel
theorem dX2_runValues_98 : decode cX2_runValues 98 = .ok (.iload 8, 2) := by decide +kernel
theorem dX2_runValues_100 : decode cX2_runValues 100 = .ok (.iconst 1, 1) := by decide +kernel
theorem dX2_runValues_101 : decode cX2_runValues 101 = .ok (.if_icmp .ne 7, 3) := by decide +kernel
theorem dX2_runValues_104 : decode cX2_runValues 104 = .ok (.iconst 5, 1) := by decide +kernel
theorem dX2_runValues_105 : decode cX2_runValues 105 = .ok (.goto 5, 3) := by decide +kernel
theorem dX2_runValues_108 : decode cX2_runValues 108 = .ok (.iload 5, 2) := by decide +kernel
theorem dX2_runValues_110 : decode cX2_runValues 110 = .ok (.istore 5, 2) := by decide +kernel
theorem dX2_runValues_112 : decode cX2_runValues 112 = .ok (.iload 8, 2) := by decide +kernel
theorem dX2_runValues_114 : decode cX2_runValues 114 = .ok (.iconst 2, 1) := by decide +kernel
theorem dX2_runValues_115 : decode cX2_runValues 115 = .ok (.if_icmp .ne 7, 3) := by decide +kernel
theorem dX2_runValues_118 : decode cX2_runValues 118 = .ok (.iconst 5, 1) := by decide +kernel
theorem dX2_runValues_119 : decode cX2_runValues 119 = .ok (.goto 5, 3) := by decide +kernel
theorem dX2_runValues_122 : decode cX2_runValues 122 = .ok (.iload 6, 2) := by decide +kernel
theorem dX2_runValues_124 : decode cX2_runValues 124 = .ok (.istore 6, 2) := by decide +kernel
theorem dX2_runValues_126 : decode cX2_runValues 126 = .ok (.aload_n 1, 1) := by decide +kernel
theorem dX2_runValues_127 : decode cX2_runValues 127 = .ok (.iload 7, 2) := by decide +kernel
theorem dX2_runValues_129 : decode cX2_runValues 129 = .ok (.iload 4, 2) := by decide +kernel
theorem dX2_runValues_131 : decode cX2_runValues 131 = .ok (.iload 5, 2) := by decide +kernel
theorem dX2_runValues_133 : decode cX2_runValues 133 = .ok (.invokevirtual 48, 3) := by decide +kernel
theorem dX2_runValues_136 : decode cX2_runValues 136 = .ok (.lconst 0, 1) := by decide +kernel
theorem dX2_runValues_137 : decode cX2_runValues 137 = .ok (.lcmp, 1) := by decide +kernel
theorem dX2_runValues_138 : decode cX2_runValues 138 = .ok (.ifCond .ne 4, 3) := by decide +kernel
theorem dX2_runValues_141 : decode cX2_runValues 141 = .ok (.return_, 1) := by decide +kernel
theorem dX2_runValues_142 : decode cX2_runValues 142 = .ok (.aload_n 0, 1) := by decide +kernel
theorem dX2_runValues_143 : decode cX2_runValues 143 = .ok (.getfield 11, 3) := by decide +kernel
theorem dX2_runValues_146 : decode cX2_runValues 146 = .ok (.iconst 1, 1) := by decide +kernel
theorem dX2_runValues_147 : decode cX2_runValues 147 = .ok (.dup2, 1) := by decide +kernel
theorem dX2_runValues_148 : decode cX2_runValues 148 = .ok (.iaload, 1) := by decide +kernel
theorem dX2_runValues_149 : decode cX2_runValues 149 = .ok (.iconst 1, 1) := by decide +kernel
theorem dX2_runValues_150 : decode cX2_runValues 150 = .ok (.iadd, 1) := by decide +kernel
theorem dX2_runValues_151 : decode cX2_runValues 151 = .ok (.iastore, 1) := by decide +kernel
theorem dX2_runValues_152 : decode cX2_runValues 152 = .ok (.aload_n 0, 1) := by decide +kernel
theorem dX2_runValues_153 : decode cX2_runValues 153 = .ok (.aload_n 2, 1) := by decide +kernel
theorem dX2_runValues_154 : decode cX2_runValues 154 = .ok (.invokevirtual 52, 3) := by decide +kernel
theorem dX2_runValues_157 : decode cX2_runValues 157 = .ok (.istore 9, 2) := by decide +kernel
theorem dX2_runValues_159 : decode cX2_runValues 159 = .ok (.aload_n 1, 1) := by decide +kernel
theorem dX2_runValues_160 : decode cX2_runValues 160 = .ok (.iload 7, 2) := by decide +kernel
theorem dX2_runValues_162 : decode cX2_runValues 162 = .ok (.iload 4, 2) := by decide +kernel
theorem dX2_runValues_164 : decode cX2_runValues 164 = .ok (.iload 5, 2) := by decide +kernel
theorem dX2_runValues_166 : decode cX2_runValues 166 = .ok (.iload 9, 2) := by decide +kernel
theorem dX2_runValues_168 : decode cX2_runValues 168 = .ok (.invokevirtual 56, 3) := by decide +kernel
theorem dX2_runValues_171 : decode cX2_runValues 171 = .ok (.istore 10, 2) := by decide +kernel
theorem dX2_runValues_173 : decode cX2_runValues 173 = .ok (.iload 10, 2) := by decide +kernel
theorem dX2_runValues_175 : decode cX2_runValues 175 = .ok (.ifCond .eq 37, 3) := by decide +kernel
theorem dX2_runValues_178 : decode cX2_runValues 178 = .ok (.aload_n 0, 1) := by decide +kernel
theorem dX2_runValues_179 : decode cX2_runValues 179 = .ok (.getfield 11, 3) := by decide +kernel
theorem dX2_runValues_182 : decode cX2_runValues 182 = .ok (.iconst 0, 1) := by decide +kernel
theorem dX2_runValues_183 : decode cX2_runValues 183 = .ok (.dup2, 1) := by decide +kernel
theorem dX2_runValues_184 : decode cX2_runValues 184 = .ok (.iaload, 1) := by decide +kernel
theorem dX2_runValues_185 : decode cX2_runValues 185 = .ok (.aload_n 2, 1) := by decide +kernel
theorem dX2_runValues_186 : decode cX2_runValues 186 = .ok (.bipush 10, 2) := by decide +kernel
theorem dX2_runValues_188 : decode cX2_runValues 188 = .ok (.iload 9, 2) := by decide +kernel
theorem dX2_runValues_190 : decode cX2_runValues 190 = .ok (.iadd, 1) := by decide +kernel
theorem dX2_runValues_191 : decode cX2_runValues 191 = .ok (.iaload, 1) := by decide +kernel
theorem dX2_runValues_192 : decode cX2_runValues 192 = .ok (.iadd, 1) := by decide +kernel
theorem dX2_runValues_193 : decode cX2_runValues 193 = .ok (.iastore, 1) := by decide +kernel
theorem dX2_runValues_194 : decode cX2_runValues 194 = .ok (.aload_n 0, 1) := by decide +kernel
theorem dX2_runValues_195 : decode cX2_runValues 195 = .ok (.getfield 11, 3) := by decide +kernel
theorem dX2_runValues_198 : decode cX2_runValues 198 = .ok (.iconst 2, 1) := by decide +kernel
theorem dX2_runValues_199 : decode cX2_runValues 199 = .ok (.dup2, 1) := by decide +kernel
theorem dX2_runValues_200 : decode cX2_runValues 200 = .ok (.iaload, 1) := by decide +kernel
theorem dX2_runValues_201 : decode cX2_runValues 201 = .ok (.iconst 1, 1) := by decide +kernel
theorem dX2_runValues_202 : decode cX2_runValues 202 = .ok (.iload 7, 2) := by decide +kernel
theorem dX2_runValues_204 : decode cX2_runValues 204 = .ok (.iconst 1, 1) := by decide +kernel
theorem dX2_runValues_205 : decode cX2_runValues 205 = .ok (.isub, 1) := by decide +kernel
theorem dX2_runValues_206 : decode cX2_runValues 206 = .ok (.ishl, 1) := by decide +kernel
theorem dX2_runValues_207 : decode cX2_runValues 207 = .ok (.ior, 1) := by decide +kernel
theorem dX2_runValues_208 : decode cX2_runValues 208 = .ok (.iastore, 1) := by decide +kernel
theorem dX2_runValues_209 : decode cX2_runValues 209 = .ok (.iinc 4 (-1), 3) := by decide +kernel
theorem dX2_runValues_212 : decode cX2_runValues 212 = .ok (.iload 5, 2) := by decide +kernel
theorem dX2_runValues_214 : decode cX2_runValues 214 = .ok (.istore 6, 2) := by decide +kernel
theorem dX2_runValues_216 : decode cX2_runValues 216 = .ok (.iload 10, 2) := by decide +kernel
theorem dX2_runValues_218 : decode cX2_runValues 218 = .ok (.ifCond .eq 7, 3) := by decide +kernel
theorem dX2_runValues_221 : decode cX2_runValues 221 = .ok (.iconst 5, 1) := by decide +kernel
theorem dX2_runValues_222 : decode cX2_runValues 222 = .ok (.goto 5, 3) := by decide +kernel
theorem dX2_runValues_225 : decode cX2_runValues 225 = .ok (.iload 9, 2) := by decide +kernel
theorem dX2_runValues_227 : decode cX2_runValues 227 = .ok (.istore 5, 2) := by decide +kernel
theorem dX2_runValues_229 : decode cX2_runValues 229 = .ok (.iinc 7 1, 3) := by decide +kernel
theorem dX2_runValues_232 : decode cX2_runValues 232 = .ok (.goto (-213), 3) := by decide +kernel
theorem dX2_runValues_235 : decode cX2_runValues 235 = .ok (.return_, 1) := by decide +kernel
theorem dX2_begin_0 : decode cX2_begin 0 = .ok (.aload_n 0, 1) := by decide +kernel
theorem dX2_begin_1 : decode cX2_begin 1 = .ok (.iload_n 1, 1) := by decide +kernel
theorem dX2_begin_2 : decode cX2_begin 2 = .ok (.putfield 59, 3) := by decide +kernel
theorem dX2_begin_5 : decode cX2_begin 5 = .ok (.iconst 0, 1) := by decide +kernel
theorem dX2_begin_6 : decode cX2_begin 6 = .ok (.istore_n 2, 1) := by decide +kernel
theorem dX2_begin_7 : decode cX2_begin 7 = .ok (.iload_n 2, 1) := by decide +kernel
theorem dX2_begin_8 : decode cX2_begin 8 = .ok (.iconst 5, 1) := by decide +kernel
theorem dX2_begin_9 : decode cX2_begin 9 = .ok (.if_icmp .ge 16, 3) := by decide +kernel
theorem dX2_begin_12 : decode cX2_begin 12 = .ok (.aload_n 0, 1) := by decide +kernel
theorem dX2_begin_13 : decode cX2_begin 13 = .ok (.getfield 11, 3) := by decide +kernel
theorem dX2_begin_16 : decode cX2_begin 16 = .ok (.iload_n 2, 1) := by decide +kernel
theorem dX2_begin_17 : decode cX2_begin 17 = .ok (.iconst 0, 1) := by decide +kernel
theorem dX2_begin_18 : decode cX2_begin 18 = .ok (.iastore, 1) := by decide +kernel
theorem dX2_begin_19 : decode cX2_begin 19 = .ok (.iinc 2 1, 3) := by decide +kernel
theorem dX2_begin_22 : decode cX2_begin 22 = .ok (.goto (-15), 3) := by decide +kernel
theorem dX2_begin_25 : decode cX2_begin 25 = .ok (.return_, 1) := by decide +kernel
theorem dX2_draw_0 : decode cX2_draw 0 = .ok (.aload_n 0, 1) := by decide +kernel
theorem dX2_draw_1 : decode cX2_draw 1 = .ok (.aload_n 0, 1) := by decide +kernel
theorem dX2_draw_2 : decode cX2_draw 2 = .ok (.getfield 59, 3) := by decide +kernel
theorem dX2_draw_5 : decode cX2_draw 5 = .ok (.ldc 63, 2) := by decide +kernel
theorem dX2_draw_7 : decode cX2_draw 7 = .ok (.imul, 1) := by decide +kernel
theorem dX2_draw_8 : decode cX2_draw 8 = .ok (.sipush 12345, 3) := by decide +kernel
theorem dX2_draw_11 : decode cX2_draw 11 = .ok (.iadd, 1) := by decide +kernel
theorem dX2_draw_12 : decode cX2_draw 12 = .ok (.putfield 59, 3) := by decide +kernel
theorem dX2_draw_15 : decode cX2_draw 15 = .ok (.aload_n 0, 1) := by decide +kernel
theorem dX2_draw_16 : decode cX2_draw 16 = .ok (.getfield 59, 3) := by decide +kernel
theorem dX2_draw_19 : decode cX2_draw 19 = .ok (.bipush 16, 2) := by decide +kernel
theorem dX2_draw_21 : decode cX2_draw 21 = .ok (.iushr, 1) := by decide +kernel
theorem dX2_draw_22 : decode cX2_draw 22 = .ok (.sipush 32767, 3) := by decide +kernel
theorem dX2_draw_25 : decode cX2_draw 25 = .ok (.iand, 1) := by decide +kernel
theorem dX2_draw_26 : decode cX2_draw 26 = .ok (.ireturn, 1) := by decide +kernel
theorem dX2_drawRanks_0 : decode cX2_drawRanks 0 = .ok (.iconst 1, 1) := by decide +kernel
theorem dX2_drawRanks_1 : decode cX2_drawRanks 1 = .ok (.istore_n 2, 1) := by decide +kernel
theorem dX2_drawRanks_2 : decode cX2_drawRanks 2 = .ok (.iload_n 2, 1) := by decide +kernel
theorem dX2_drawRanks_3 : decode cX2_drawRanks 3 = .ok (.iload_n 1, 1) := by decide +kernel
theorem dX2_drawRanks_4 : decode cX2_drawRanks 4 = .ok (.if_icmp .gt 69, 3) := by decide +kernel
theorem dX2_drawRanks_7 : decode cX2_drawRanks 7 = .ok (.iconst 1, 1) := by decide +kernel
theorem dX2_drawRanks_8 : decode cX2_drawRanks 8 = .ok (.aload_n 0, 1) := by decide +kernel
theorem dX2_drawRanks_9 : decode cX2_drawRanks 9 = .ok (.invokevirtual 64, 3) := by decide +kernel
theorem dX2_drawRanks_12 : decode cX2_drawRanks 12 = .ok (.iload_n 2, 1) := by decide +kernel
theorem dX2_drawRanks_13 : decode cX2_drawRanks 13 = .ok (.irem, 1) := by decide +kernel
theorem dX2_drawRanks_14 : decode cX2_drawRanks 14 = .ok (.iadd, 1) := by decide +kernel
theorem dX2_drawRanks_15 : decode cX2_drawRanks 15 = .ok (.istore_n 3, 1) := by decide +kernel
theorem dX2_drawRanks_16 : decode cX2_drawRanks 16 = .ok (.aload_n 0, 1) := by decide +kernel
theorem dX2_drawRanks_17 : decode cX2_drawRanks 17 = .ok (.getfield 15, 3) := by decide +kernel
theorem dX2_drawRanks_20 : decode cX2_drawRanks 20 = .ok (.iload_n 2, 1) := by decide +kernel
theorem dX2_drawRanks_21 : decode cX2_drawRanks 21 = .ok (.iload_n 3, 1) := by decide +kernel
theorem dX2_drawRanks_22 : decode cX2_drawRanks 22 = .ok (.iastore, 1) := by decide +kernel
theorem dX2_drawRanks_23 : decode cX2_drawRanks 23 = .ok (.iconst 1, 1) := by decide +kernel
theorem dX2_drawRanks_24 : decode cX2_drawRanks 24 = .ok (.istore 4, 2) := by decide +kernel
theorem dX2_drawRanks_26 : decode cX2_drawRanks 26 = .ok (.iload 4, 2) := by decide +kernel
theorem dX2_drawRanks_28 : decode cX2_drawRanks 28 = .ok (.iload_n 2, 1) := by decide +kernel
theorem dX2_drawRanks_29 : decode cX2_drawRanks 29 = .ok (.if_icmp .ge 31, 3) := by decide +kernel
theorem dX2_drawRanks_32 : decode cX2_drawRanks 32 = .ok (.aload_n 0, 1) := by decide +kernel
theorem dX2_drawRanks_33 : decode cX2_drawRanks 33 = .ok (.getfield 18, 3) := by decide +kernel
theorem dX2_drawRanks_36 : decode cX2_drawRanks 36 = .ok (.iload 4, 2) := by decide +kernel
theorem dX2_drawRanks_38 : decode cX2_drawRanks 38 = .ok (.iaload, 1) := by decide +kernel
theorem dX2_drawRanks_39 : decode cX2_drawRanks 39 = .ok (.iload_n 3, 1) := by decide +kernel
theorem dX2_drawRanks_40 : decode cX2_drawRanks 40 = .ok (.if_icmp .lt 14, 3) := by decide +kernel
theorem dX2_drawRanks_43 : decode cX2_drawRanks 43 = .ok (.aload_n 0, 1) := by decide +kernel
theorem dX2_drawRanks_44 : decode cX2_drawRanks 44 = .ok (.getfield 18, 3) := by decide +kernel
theorem dX2_drawRanks_47 : decode cX2_drawRanks 47 = .ok (.iload 4, 2) := by decide +kernel
theorem dX2_drawRanks_49 : decode cX2_drawRanks 49 = .ok (.dup2, 1) := by decide +kernel
theorem dX2_drawRanks_50 : decode cX2_drawRanks 50 = .ok (.iaload, 1) := by decide +kernel
theorem dX2_drawRanks_51 : decode cX2_drawRanks 51 = .ok (.iconst 1, 1) := by decide +kernel
theorem dX2_drawRanks_52 : decode cX2_drawRanks 52 = .ok (.iadd, 1) := by decide +kernel
theorem dX2_drawRanks_53 : decode cX2_drawRanks 53 = .ok (.iastore, 1) := by decide +kernel
theorem dX2_drawRanks_54 : decode cX2_drawRanks 54 = .ok (.iinc 4 1, 3) := by decide +kernel
theorem dX2_drawRanks_57 : decode cX2_drawRanks 57 = .ok (.goto (-31), 3) := by decide +kernel
theorem dX2_drawRanks_60 : decode cX2_drawRanks 60 = .ok (.aload_n 0, 1) := by decide +kernel
theorem dX2_drawRanks_61 : decode cX2_drawRanks 61 = .ok (.getfield 18, 3) := by decide +kernel
theorem dX2_drawRanks_64 : decode cX2_drawRanks 64 = .ok (.iload_n 2, 1) := by decide +kernel
theorem dX2_drawRanks_65 : decode cX2_drawRanks 65 = .ok (.iload_n 3, 1) := by decide +kernel
theorem dX2_drawRanks_66 : decode cX2_drawRanks 66 = .ok (.iastore, 1) := by decide +kernel
theorem dX2_drawRanks_67 : decode cX2_drawRanks 67 = .ok (.iinc 2 1, 3) := by decide +kernel
theorem dX2_drawRanks_70 : decode cX2_drawRanks 70 = .ok (.goto (-68), 3) := by decide +kernel
theorem dX2_drawRanks_73 : decode cX2_drawRanks 73 = .ok (.return_, 1) := by decide +kernel
theorem dX2_recallSucceeds_0 : decode cX2_recallSucceeds 0 = .ok (.aload_n 0, 1) := by decide +kernel
theorem dX2_recallSucceeds_1 : decode cX2_recallSucceeds 1 = .ok (.getfield 11, 3) := by decide +kernel
theorem dX2_recallSucceeds_4 : decode cX2_recallSucceeds 4 = .ok (.iconst 3, 1) := by decide +kernel
theorem dX2_recallSucceeds_5 : decode cX2_recallSucceeds 5 = .ok (.dup2, 1) := by decide +kernel
theorem dX2_recallSucceeds_6 : decode cX2_recallSucceeds 6 = .ok (.iaload, 1) := by decide +kernel
theorem dX2_recallSucceeds_7 : decode cX2_recallSucceeds 7 = .ok (.iconst 1, 1) := by decide +kernel
theorem dX2_recallSucceeds_8 : decode cX2_recallSucceeds 8 = .ok (.iadd, 1) := by decide +kernel
theorem dX2_recallSucceeds_9 : decode cX2_recallSucceeds 9 = .ok (.iastore, 1) := by decide +kernel
theorem dX2_recallSucceeds_10 : decode cX2_recallSucceeds 10 = .ok (.aload_n 0, 1) := by decide +kernel
theorem dX2_recallSucceeds_11 : decode cX2_recallSucceeds 11 = .ok (.invokevirtual 64, 3) := by decide +kernel
theorem dX2_recallSucceeds_14 : decode cX2_recallSucceeds 14 = .ok (.bipush 10, 2) := by decide +kernel
theorem dX2_recallSucceeds_16 : decode cX2_recallSucceeds 16 = .ok (.irem, 1) := by decide +kernel
theorem dX2_recallSucceeds_17 : decode cX2_recallSucceeds 17 = .ok (.iload_n 1, 1) := by decide +kernel
theorem dX2_recallSucceeds_18 : decode cX2_recallSucceeds 18 = .ok (.if_icmp .lt 5, 3) := by decide +kernel
theorem dX2_recallSucceeds_21 : decode cX2_recallSucceeds 21 = .ok (.iconst 0, 1) := by decide +kernel
theorem dX2_recallSucceeds_22 : decode cX2_recallSucceeds 22 = .ok (.ireturn, 1) := by decide +kernel
theorem dX2_recallSucceeds_23 : decode cX2_recallSucceeds 23 = .ok (.aload_n 0, 1) := by decide +kernel
theorem dX2_recallSucceeds_24 : decode cX2_recallSucceeds 24 = .ok (.getfield 11, 3) := by decide +kernel
theorem dX2_recallSucceeds_27 : decode cX2_recallSucceeds 27 = .ok (.iconst 4, 1) := by decide +kernel
theorem dX2_recallSucceeds_28 : decode cX2_recallSucceeds 28 = .ok (.dup2, 1) := by decide +kernel
theorem dX2_recallSucceeds_29 : decode cX2_recallSucceeds 29 = .ok (.iaload, 1) := by decide +kernel
theorem dX2_recallSucceeds_30 : decode cX2_recallSucceeds 30 = .ok (.iconst 1, 1) := by decide +kernel
theorem dX2_recallSucceeds_31 : decode cX2_recallSucceeds 31 = .ok (.iadd, 1) := by decide +kernel
theorem dX2_recallSucceeds_32 : decode cX2_recallSucceeds 32 = .ok (.iastore, 1) := by decide +kernel
theorem dX2_recallSucceeds_33 : decode cX2_recallSucceeds 33 = .ok (.iconst 1, 1) := by decide +kernel
theorem dX2_recallSucceeds_34 : decode cX2_recallSucceeds 34 = .ok (.ireturn, 1) := by decide +kernel
theorem dX2_drawLevel_0 : decode cX2_drawLevel 0 = .ok (.aload_n 0, 1) := by decide +kernel
theorem dX2_drawLevel_1 : decode cX2_drawLevel 1 = .ok (.invokevirtual 64, 3) := by decide +kernel
theorem dX2_drawLevel_4 : decode cX2_drawLevel 4 = .ok (.bipush 10, 2) := by decide +kernel
theorem dX2_drawLevel_6 : decode cX2_drawLevel 6 = .ok (.irem, 1) := by decide +kernel
theorem dX2_drawLevel_7 : decode cX2_drawLevel 7 = .ok (.istore_n 2, 1) := by decide +kernel
theorem dX2_drawLevel_8 : decode cX2_drawLevel 8 = .ok (.iconst 0, 1) := by decide +kernel
theorem dX2_drawLevel_9 : decode cX2_drawLevel 9 = .ok (.istore_n 3, 1) := by decide +kernel
theorem dX2_drawLevel_10 : decode cX2_drawLevel 10 = .ok (.aload_n 1, 1) := by decide +kernel
theorem dX2_drawLevel_11 : decode cX2_drawLevel 11 = .ok (.bipush 15, 2) := by decide +kernel
theorem dX2_drawLevel_13 : decode cX2_drawLevel 13 = .ok (.iaload, 1) := by decide +kernel
theorem dX2_drawLevel_14 : decode cX2_drawLevel 14 = .ok (.istore 4, 2) := by decide +kernel
theorem dX2_drawLevel_16 : decode cX2_drawLevel 16 = .ok (.iload_n 3, 1) := by decide +kernel
theorem dX2_drawLevel_17 : decode cX2_drawLevel 17 = .ok (.iconst 4, 1) := by decide +kernel
theorem dX2_drawLevel_18 : decode cX2_drawLevel 18 = .ok (.if_icmp .ge 26, 3) := by decide +kernel
theorem dX2_drawLevel_21 : decode cX2_drawLevel 21 = .ok (.iload_n 2, 1) := by decide +kernel
theorem dX2_drawLevel_22 : decode cX2_drawLevel 22 = .ok (.iload 4, 2) := by decide +kernel
theorem dX2_drawLevel_24 : decode cX2_drawLevel 24 = .ok (.if_icmp .lt 20, 3) := by decide +kernel
theorem dX2_drawLevel_27 : decode cX2_drawLevel 27 = .ok (.iinc 3 1, 3) := by decide +kernel
theorem dX2_drawLevel_30 : decode cX2_drawLevel 30 = .ok (.iload 4, 2) := by decide +kernel
theorem dX2_drawLevel_32 : decode cX2_drawLevel 32 = .ok (.aload_n 1, 1) := by decide +kernel
theorem dX2_drawLevel_33 : decode cX2_drawLevel 33 = .ok (.bipush 15, 2) := by decide +kernel
theorem dX2_drawLevel_35 : decode cX2_drawLevel 35 = .ok (.iload_n 3, 1) := by decide +kernel
theorem dX2_drawLevel_36 : decode cX2_drawLevel 36 = .ok (.iadd, 1) := by decide +kernel
theorem dX2_drawLevel_37 : decode cX2_drawLevel 37 = .ok (.iaload, 1) := by decide +kernel
theorem dX2_drawLevel_38 : decode cX2_drawLevel 38 = .ok (.iadd, 1) := by decide +kernel
theorem dX2_drawLevel_39 : decode cX2_drawLevel 39 = .ok (.istore 4, 2) := by decide +kernel
theorem dX2_drawLevel_41 : decode cX2_drawLevel 41 = .ok (.goto (-25), 3) := by decide +kernel
theorem dX2_drawLevel_44 : decode cX2_drawLevel 44 = .ok (.iload_n 3, 1) := by decide +kernel
theorem dX2_drawLevel_45 : decode cX2_drawLevel 45 = .ok (.ireturn, 1) := by decide +kernel
theorem dX3_init_0 : decode cX3_init 0 = .ok (.aload_n 0, 1) := by decide +kernel
theorem dX3_init_1 : decode cX3_init 1 = .ok (.invokespecial 3, 3) := by decide +kernel
theorem dX3_init_4 : decode cX3_init 4 = .ok (.aload_n 0, 1) := by decide +kernel
theorem dX3_init_5 : decode cX3_init 5 = .ok (.bipush 60, 2) := by decide +kernel
theorem dX3_init_7 : decode cX3_init 7 = .ok (.newarray .int, 2) := by decide +kernel
theorem dX3_init_9 : decode cX3_init 9 = .ok (.putfield 11, 3) := by decide +kernel
theorem dX3_init_12 : decode cX3_init 12 = .ok (.aload_n 0, 1) := by decide +kernel
theorem dX3_init_13 : decode cX3_init 13 = .ok (.bipush 22, 2) := by decide +kernel
theorem dX3_init_15 : decode cX3_init 15 = .ok (.newarray .int, 2) := by decide +kernel
theorem dX3_init_17 : decode cX3_init 17 = .ok (.putfield 15, 3) := by decide +kernel
theorem dX3_init_20 : decode cX3_init 20 = .ok (.aload_n 0, 1) := by decide +kernel
theorem dX3_init_21 : decode cX3_init 21 = .ok (.iconst (-1), 1) := by decide +kernel
theorem dX3_init_22 : decode cX3_init 22 = .ok (.putfield 18, 3) := by decide +kernel
theorem dX3_init_25 : decode cX3_init 25 = .ok (.return_, 1) := by decide +kernel
theorem dX3_size_0 : decode cX3_size 0 = .ok (.aload_n 0, 1) := by decide +kernel
theorem dX3_size_1 : decode cX3_size 1 = .ok (.getfield 22, 3) := by decide +kernel
theorem dX3_size_4 : decode cX3_size 4 = .ok (.ireturn, 1) := by decide +kernel
theorem dX3_isFull_0 : decode cX3_isFull 0 = .ok (.aload_n 0, 1) := by decide +kernel
theorem dX3_isFull_1 : decode cX3_isFull 1 = .ok (.getfield 22, 3) := by decide +kernel
theorem dX3_isFull_4 : decode cX3_isFull 4 = .ok (.bipush 60, 2) := by decide +kernel
theorem dX3_isFull_6 : decode cX3_isFull 6 = .ok (.if_icmp .ne 7, 3) := by decide +kernel
theorem dX3_isFull_9 : decode cX3_isFull 9 = .ok (.iconst 1, 1) := by decide +kernel
theorem dX3_isFull_10 : decode cX3_isFull 10 = .ok (.goto 4, 3) := by decide +kernel
theorem dX3_isFull_13 : decode cX3_isFull 13 = .ok (.iconst 0, 1) := by decide +kernel
theorem dX3_isFull_14 : decode cX3_isFull 14 = .ok (.ireturn, 1) := by decide +kernel
theorem dX3_append_0 : decode cX3_append 0 = .ok (.aload_n 0, 1) := by decide +kernel
theorem dX3_append_1 : decode cX3_append 1 = .ok (.getfield 22, 3) := by decide +kernel
theorem dX3_append_4 : decode cX3_append 4 = .ok (.bipush 60, 2) := by decide +kernel
theorem dX3_append_6 : decode cX3_append 6 = .ok (.if_icmp .ge 23, 3) := by decide +kernel
theorem dX3_append_9 : decode cX3_append 9 = .ok (.aload_n 0, 1) := by decide +kernel
theorem dX3_append_10 : decode cX3_append 10 = .ok (.getfield 11, 3) := by decide +kernel
theorem dX3_append_13 : decode cX3_append 13 = .ok (.aload_n 0, 1) := by decide +kernel
theorem dX3_append_14 : decode cX3_append 14 = .ok (.getfield 22, 3) := by decide +kernel
theorem dX3_append_17 : decode cX3_append 17 = .ok (.iload_n 1, 1) := by decide +kernel
theorem dX3_append_18 : decode cX3_append 18 = .ok (.iastore, 1) := by decide +kernel
theorem dX3_append_19 : decode cX3_append 19 = .ok (.aload_n 0, 1) := by decide +kernel
theorem dX3_append_20 : decode cX3_append 20 = .ok (.dup, 1) := by decide +kernel
theorem dX3_append_21 : decode cX3_append 21 = .ok (.getfield 22, 3) := by decide +kernel
theorem dX3_append_24 : decode cX3_append 24 = .ok (.iconst 1, 1) := by decide +kernel
theorem dX3_append_25 : decode cX3_append 25 = .ok (.iadd, 1) := by decide +kernel
theorem dX3_append_26 : decode cX3_append 26 = .ok (.putfield 22, 3) := by decide +kernel
theorem dX3_append_29 : decode cX3_append 29 = .ok (.aload_n 0, 1) := by decide +kernel
theorem dX3_append_30 : decode cX3_append 30 = .ok (.getfield 22, 3) := by decide +kernel
theorem dX3_append_33 : decode cX3_append 33 = .ok (.ireturn, 1) := by decide +kernel
theorem dX3_empty_0 : decode cX3_empty 0 = .ok (.aload_n 0, 1) := by decide +kernel
theorem dX3_empty_1 : decode cX3_empty 1 = .ok (.getfield 22, 3) := by decide +kernel
theorem dX3_empty_4 : decode cX3_empty 4 = .ok (.istore_n 1, 1) := by decide +kernel
theorem dX3_empty_5 : decode cX3_empty 5 = .ok (.aload_n 0, 1) := by decide +kernel
theorem dX3_empty_6 : decode cX3_empty 6 = .ok (.iconst 0, 1) := by decide +kernel
theorem dX3_empty_7 : decode cX3_empty 7 = .ok (.putfield 22, 3) := by decide +kernel
theorem dX3_empty_10 : decode cX3_empty 10 = .ok (.iload_n 1, 1) := by decide +kernel
theorem dX3_empty_11 : decode cX3_empty 11 = .ok (.ireturn, 1) := by decide +kernel
theorem dX3_kindOfFault_0 : decode cX3_kindOfFault 0 = .ok (.aload_n 0, 1) := by decide +kernel
theorem dX3_kindOfFault_1 : decode cX3_kindOfFault 1 = .ok (.getfield 25, 3) := by decide +kernel
theorem dX3_kindOfFault_4 : decode cX3_kindOfFault 4 = .ok (.ireturn, 1) := by decide +kernel
theorem dX3_positionOfFault_0 : decode cX3_positionOfFault 0 = .ok (.aload_n 0, 1) := by decide +kernel
theorem dX3_positionOfFault_1 : decode cX3_positionOfFault 1 = .ok (.getfield 28, 3) := by decide +kernel
theorem dX3_positionOfFault_4 : decode cX3_positionOfFault 4 = .ok (.ireturn, 1) := by decide +kernel
theorem dX3_countOfItems_0 : decode cX3_countOfItems 0 = .ok (.aload_n 0, 1) := by decide +kernel
theorem dX3_countOfItems_1 : decode cX3_countOfItems 1 = .ok (.getfield 31, 3) := by decide +kernel
theorem dX3_countOfItems_4 : decode cX3_countOfItems 4 = .ok (.ireturn, 1) := by decide +kernel
theorem dX3_giveParameters_0 : decode cX3_giveParameters 0 = .ok (.aload_n 0, 1) := by decide +kernel
theorem dX3_giveParameters_1 : decode cX3_giveParameters 1 = .ok (.getfield 15, 3) := by decide +kernel
theorem dX3_giveParameters_4 : decode cX3_giveParameters 4 = .ok (.iconst 0, 1) := by decide +kernel
theorem dX3_giveParameters_5 : decode cX3_giveParameters 5 = .ok (.aload_n 1, 1) := by decide +kernel
theorem dX3_giveParameters_6 : decode cX3_giveParameters 6 = .ok (.iconst 0, 1) := by decide +kernel
theorem dX3_giveParameters_7 : decode cX3_giveParameters 7 = .ok (.bipush 22, 2) := by decide +kernel
theorem dX3_giveParameters_9 : decode cX3_giveParameters 9 = .ok (.invokestatic 34, 3) := by decide +kernel
theorem dX3_giveParameters_12 : decode cX3_giveParameters 12 = .ok (.return_, 1) := by decide +kernel
theorem dX3_read_0 : decode cX3_read 0 = .ok (.aload_n 1, 1) := by decide +kernel
theorem dX3_read_1 : decode cX3_read 1 = .ok (.iconst 0, 1) := by decide +kernel
theorem dX3_read_2 : decode cX3_read 2 = .ok (.aload_n 0, 1) := by decide +kernel
theorem dX3_read_3 : decode cX3_read 3 = .ok (.getfield 15, 3) := by decide +kernel
theorem dX3_read_6 : decode cX3_read 6 = .ok (.iconst 0, 1) := by decide +kernel
theorem dX3_read_7 : decode cX3_read 7 = .ok (.bipush 22, 2) := by decide +kernel
theorem dX3_read_9 : decode cX3_read 9 = .ok (.invokestatic 34, 3) := by decide +kernel
theorem dX3_read_12 : decode cX3_read 12 = .ok (.aload_n 0, 1) := by decide +kernel
theorem dX3_read_13 : decode cX3_read 13 = .ok (.iconst 0, 1) := by decide +kernel
theorem dX3_read_14 : decode cX3_read 14 = .ok (.putfield 25, 3) := by decide +kernel
theorem dX3_read_17 : decode cX3_read 17 = .ok (.aload_n 0, 1) := by decide +kernel
theorem dX3_read_18 : decode cX3_read 18 = .ok (.iconst 0, 1) := by decide +kernel
theorem dX3_read_19 : decode cX3_read 19 = .ok (.putfield 31, 3) := by decide +kernel
theorem dX3_read_22 : decode cX3_read 22 = .ok (.aload_n 0, 1) := by decide +kernel
theorem dX3_read_23 : decode cX3_read 23 = .ok (.iconst (-1), 1) := by decide +kernel
theorem dX3_read_24 : decode cX3_read 24 = .ok (.putfield 18, 3) := by decide +kernel
theorem dX3_read_27 : decode cX3_read 27 = .ok (.aload_n 0, 1) := by decide +kernel
theorem dX3_read_28 : decode cX3_read 28 = .ok (.iconst 0, 1) := by decide +kernel
theorem dX3_read_29 : decode cX3_read 29 = .ok (.putfield 40, 3) := by decide +kernel
theorem dX3_read_32 : decode cX3_read 32 = .ok (.iconst 0, 1) := by decide +kernel
theorem dX3_read_33 : decode cX3_read 33 = .ok (.istore_n 2, 1) := by decide +kernel
theorem dX3_read_34 : decode cX3_read 34 = .ok (.iload_n 2, 1) := by decide +kernel
theorem dX3_read_35 : decode cX3_read 35 = .ok (.aload_n 0, 1) := by decide +kernel
theorem dX3_read_36 : decode cX3_read 36 = .ok (.getfield 22, 3) := by decide +kernel
theorem dX3_read_39 : decode cX3_read 39 = .ok (.if_icmp .ge 27, 3) := by decide +kernel
theorem dX3_read_42 : decode cX3_read 42 = .ok (.aload_n 0, 1) := by decide +kernel
theorem dX3_read_43 : decode cX3_read 43 = .ok (.getfield 25, 3) := by decide +kernel
theorem dX3_read_46 : decode cX3_read 46 = .ok (.ifCond .ne 20, 3) := by decide +kernel
theorem dX3_read_49 : decode cX3_read 49 = .ok (.aload_n 0, 1) := by decide +kernel
theorem dX3_read_50 : decode cX3_read 50 = .ok (.aload_n 0, 1) := by decide +kernel
theorem dX3_read_51 : decode cX3_read 51 = .ok (.getfield 11, 3) := by decide +kernel
theorem dX3_read_54 : decode cX3_read 54 = .ok (.iload_n 2, 1) := by decide +kernel
theorem dX3_read_55 : decode cX3_read 55 = .ok (.iaload, 1) := by decide +kernel
theorem dX3_read_56 : decode cX3_read 56 = .ok (.iload_n 2, 1) := by decide +kernel
theorem dX3_read_57 : decode cX3_read 57 = .ok (.invokevirtual 43, 3) := by decide +kernel
theorem dX3_read_60 : decode cX3_read 60 = .ok (.iinc 2 1, 3) := by decide +kernel
theorem dX3_read_63 : decode cX3_read 63 = .ok (.goto (-29), 3) := by decide +kernel
theorem dX3_read_66 : decode cX3_read 66 = .ok (.aload_n 0, 1) := by decide +kernel
theorem dX3_read_67 : decode cX3_read 67 = .ok (.getfield 25, 3) := by decide +kernel
theorem dX3_read_70 : decode cX3_read 70 = .ok (.ifCond .ne 7, 3) := by decide +kernel
theorem dX3_read_73 : decode cX3_read 73 = .ok (.aload_n 0, 1) := by decide +kernel
theorem dX3_read_74 : decode cX3_read 74 = .ok (.invokevirtual 47, 3) := by decide +kernel
theorem dX3_read_77 : decode cX3_read 77 = .ok (.aload_n 0, 1) := by decide +kernel
theorem dX3_read_78 : decode cX3_read 78 = .ok (.getfield 25, 3) := by decide +kernel
theorem dX3_read_81 : decode cX3_read 81 = .ok (.ifCond .ne 20, 3) := by decide +kernel
theorem dX3_read_84 : decode cX3_read 84 = .ok (.aload_n 0, 1) := by decide +kernel
theorem dX3_read_85 : decode cX3_read 85 = .ok (.getfield 18, 3) := by decide +kernel
theorem dX3_read_88 : decode cX3_read 88 = .ok (.iconst (-1), 1) := by decide +kernel
theorem dX3_read_89 : decode cX3_read 89 = .ok (.if_icmp .eq 12, 3) := by decide +kernel
theorem dX3_read_92 : decode cX3_read 92 = .ok (.aload_n 0, 1) := by decide +kernel
theorem dX3_read_93 : decode cX3_read 93 = .ok (.iconst 1, 1) := by decide +kernel
theorem dX3_read_94 : decode cX3_read 94 = .ok (.aload_n 0, 1) := by decide +kernel
theorem dX3_read_95 : decode cX3_read 95 = .ok (.getfield 22, 3) := by decide +kernel
theorem dX3_read_98 : decode cX3_read 98 = .ok (.invokevirtual 50, 3) := by decide +kernel
theorem dX3_read_101 : decode cX3_read 101 = .ok (.return_, 1) := by decide +kernel
theorem dX3_readCharacter_0 : decode cX3_readCharacter 0 = .ok (.iload_n 1, 1) := by decide +kernel
theorem dX3_readCharacter_1 : decode cX3_readCharacter 1 = .ok (.bipush 48, 2) := by decide +kernel
theorem dX3_readCharacter_3 : decode cX3_readCharacter 3 = .ok (.if_icmp .lt 19, 3) := by decide +kernel
theorem dX3_readCharacter_6 : decode cX3_readCharacter 6 = .ok (.iload_n 1, 1) := by decide +kernel
theorem dX3_readCharacter_7 : decode cX3_readCharacter 7 = .ok (.bipush 57, 2) := by decide +kernel
theorem dX3_readCharacter_9 : decode cX3_readCharacter 9 = .ok (.if_icmp .gt 13, 3) := by decide +kernel
theorem dX3_readCharacter_12 : decode cX3_readCharacter 12 = .ok (.aload_n 0, 1) := by decide +kernel
theorem dX3_readCharacter_13 : decode cX3_readCharacter 13 = .ok (.iload_n 1, 1) := by decide +kernel
theorem dX3_readCharacter_14 : decode cX3_readCharacter 14 = .ok (.bipush 48, 2) := by decide +kernel
theorem dX3_readCharacter_16 : decode cX3_readCharacter 16 = .ok (.isub, 1) := by decide +kernel
theorem dX3_readCharacter_17 : decode cX3_readCharacter 17 = .ok (.iload_n 2, 1) := by decide +kernel
theorem dX3_readCharacter_18 : decode cX3_readCharacter 18 = .ok (.invokevirtual 53, 3) := by decide +kernel
theorem dX3_readCharacter_21 : decode cX3_readCharacter 21 = .ok (.return_, 1) := by decide +kernel
theorem dX3_readCharacter_22 : decode cX3_readCharacter 22 = .ok (.aload_n 0, 1) := by decide +kernel
theorem dX3_readCharacter_23 : decode cX3_readCharacter 23 = .ok (.invokevirtual 47, 3) := by decide +kernel
theorem dX3_readCharacter_26 : decode cX3_readCharacter 26 = .ok (.aload_n 0, 1) := by decide +kernel
theorem dX3_readCharacter_27 : decode cX3_readCharacter 27 = .ok (.getfield 25, 3) := by decide +kernel
theorem dX3_readCharacter_30 : decode cX3_readCharacter 30 = .ok (.ifCond .ne 9, 3) := by decide +kernel
theorem dX3_readCharacter_33 : decode cX3_readCharacter 33 = .ok (.iload_n 1, 1) := by decide +kernel
theorem dX3_readCharacter_34 : decode cX3_readCharacter 34 = .ok (.bipush 32, 2) := by decide +kernel
theorem dX3_readCharacter_36 : decode cX3_readCharacter 36 = .ok (.if_icmp .ne 4, 3) := by decide +kernel
theorem dX3_readCharacter_39 : decode cX3_readCharacter 39 = .ok (.return_, 1) := by decide +kernel
theorem dX3_readCharacter_40 : decode cX3_readCharacter 40 = .ok (.iload_n 1, 1) := by decide +kernel
theorem dX3_readCharacter_41 : decode cX3_readCharacter 41 = .ok (.bipush 59, 2) := by decide +kernel
theorem dX3_readCharacter_43 : decode cX3_readCharacter 43 = .ok (.if_icmp .ne 11, 3) := by decide +kernel
theorem dX3_readCharacter_46 : decode cX3_readCharacter 46 = .ok (.aload_n 0, 1) := by decide +kernel
theorem dX3_readCharacter_47 : decode cX3_readCharacter 47 = .ok (.iload_n 2, 1) := by decide +kernel
theorem dX3_readCharacter_48 : decode cX3_readCharacter 48 = .ok (.invokevirtual 56, 3) := by decide +kernel
theorem dX3_readCharacter_51 : decode cX3_readCharacter 51 = .ok (.goto 9, 3) := by decide +kernel
theorem dX3_readCharacter_54 : decode cX3_readCharacter 54 = .ok (.aload_n 0, 1) := by decide +kernel
theorem dX3_readCharacter_55 : decode cX3_readCharacter 55 = .ok (.iload_n 1, 1) := by decide +kernel
theorem dX3_readCharacter_56 : decode cX3_readCharacter 56 = .ok (.iload_n 2, 1) := by decide +kernel
theorem dX3_readCharacter_57 : decode cX3_readCharacter 57 = .ok (.invokevirtual 60, 3) := by decide +kernel
theorem dX3_readCharacter_60 : decode cX3_readCharacter 60 = .ok (.return_, 1) := by decide +kernel
theorem dX3_readDigit_0 : decode cX3_readDigit 0 = .ok (.aload_n 0, 1) := by decide +kernel
theorem dX3_readDigit_1 : decode cX3_readDigit 1 = .ok (.getfield 18, 3) := by decide +kernel
theorem dX3_readDigit_4 : decode cX3_readDigit 4 = .ok (.iconst (-1), 1) := by decide +kernel
theorem dX3_readDigit_5 : decode cX3_readDigit 5 = .ok (.if_icmp .eq 11, 3) := by decide +kernel
theorem dX3_readDigit_8 : decode cX3_readDigit 8 = .ok (.aload_n 0, 1) := by decide +kernel
theorem dX3_readDigit_9 : decode cX3_readDigit 9 = .ok (.getfield 40, 3) := by decide +kernel
theorem dX3_readDigit_12 : decode cX3_readDigit 12 = .ok (.iconst 2, 1) := by decide +kernel
theorem dX3_readDigit_13 : decode cX3_readDigit 13 = .ok (.if_icmp .ne 10, 3) := by decide +kernel
theorem dX3_readDigit_16 : decode cX3_readDigit 16 = .ok (.aload_n 0, 1) := by decide +kernel
theorem dX3_readDigit_17 : decode cX3_readDigit 17 = .ok (.iconst 1, 1) := by decide +kernel
theorem dX3_readDigit_18 : decode cX3_readDigit 18 = .ok (.iload_n 2, 1) := by decide +kernel
theorem dX3_readDigit_19 : decode cX3_readDigit 19 = .ok (.invokevirtual 50, 3) := by decide +kernel
theorem dX3_readDigit_22 : decode cX3_readDigit 22 = .ok (.return_, 1) := by decide +kernel
theorem dX3_readDigit_23 : decode cX3_readDigit 23 = .ok (.aload_n 0, 1) := by decide +kernel
theorem dX3_readDigit_24 : decode cX3_readDigit 24 = .ok (.getfield 40, 3) := by decide +kernel
theorem dX3_readDigit_27 : decode cX3_readDigit 27 = .ok (.ifCond .ne 13, 3) := by decide +kernel
theorem dX3_readDigit_30 : decode cX3_readDigit 30 = .ok (.aload_n 0, 1) := by decide +kernel
theorem dX3_readDigit_31 : decode cX3_readDigit 31 = .ok (.iconst 0, 1) := by decide +kernel
theorem dX3_readDigit_32 : decode cX3_readDigit 32 = .ok (.putfield 63, 3) := by decide +kernel
theorem dX3_readDigit_35 : decode cX3_readDigit 35 = .ok (.aload_n 0, 1) := by decide +kernel
theorem dX3_readDigit_36 : decode cX3_readDigit 36 = .ok (.iload_n 2, 1) := by decide +kernel
theorem dX3_readDigit_37 : decode cX3_readDigit 37 = .ok (.putfield 66, 3) := by decide +kernel
theorem dX3_readDigit_40 : decode cX3_readDigit 40 = .ok (.aload_n 0, 1) := by decide +kernel
theorem dX3_readDigit_41 : decode cX3_readDigit 41 = .ok (.aload_n 0, 1) := by decide +kernel
theorem dX3_readDigit_42 : decode cX3_readDigit 42 = .ok (.getfield 63, 3) := by decide +kernel
theorem dX3_readDigit_45 : decode cX3_readDigit 45 = .ok (.bipush 10, 2) := by decide +kernel
theorem dX3_readDigit_47 : decode cX3_readDigit 47 = .ok (.imul, 1) := by decide +kernel
theorem dX3_readDigit_48 : decode cX3_readDigit 48 = .ok (.iload_n 1, 1) := by decide +kernel
theorem dX3_readDigit_49 : decode cX3_readDigit 49 = .ok (.iadd, 1) := by decide +kernel
theorem dX3_readDigit_50 : decode cX3_readDigit 50 = .ok (.putfield 63, 3) := by decide +kernel
theorem dX3_readDigit_53 : decode cX3_readDigit 53 = .ok (.aload_n 0, 1) := by decide +kernel
theorem dX3_readDigit_54 : decode cX3_readDigit 54 = .ok (.dup, 1) := by decide +kernel
theorem dX3_readDigit_55 : decode cX3_readDigit 55 = .ok (.getfield 40, 3) := by decide +kernel
theorem dX3_readDigit_58 : decode cX3_readDigit 58 = .ok (.iconst 1, 1) := by decide +kernel
theorem dX3_readDigit_59 : decode cX3_readDigit 59 = .ok (.iadd, 1) := by decide +kernel
theorem dX3_readDigit_60 : decode cX3_readDigit 60 = .ok (.putfield 40, 3) := by decide +kernel
theorem dX3_readDigit_63 : decode cX3_readDigit 63 = .ok (.return_, 1) := by decide +kernel
theorem dX3_endNumber_0 : decode cX3_endNumber 0 = .ok (.aload_n 0, 1) := by decide +kernel
theorem dX3_endNumber_1 : decode cX3_endNumber 1 = .ok (.getfield 40, 3) := by decide +kernel
theorem dX3_endNumber_4 : decode cX3_endNumber 4 = .ok (.ifCond .eq 11, 3) := by decide +kernel
theorem dX3_endNumber_7 : decode cX3_endNumber 7 = .ok (.aload_n 0, 1) := by decide +kernel
theorem dX3_endNumber_8 : decode cX3_endNumber 8 = .ok (.getfield 18, 3) := by decide +kernel
theorem dX3_endNumber_11 : decode cX3_endNumber 11 = .ok (.iconst (-1), 1) := by decide +kernel
theorem dX3_endNumber_12 : decode cX3_endNumber 12 = .ok (.if_icmp .ne 4, 3) := by decide +kernel
theorem dX3_endNumber_15 : decode cX3_endNumber 15 = .ok (.return_, 1) := by decide +kernel
theorem dX3_endNumber_16 : decode cX3_endNumber 16 = .ok (.aload_n 0, 1) := by decide +kernel
theorem dX3_endNumber_17 : decode cX3_endNumber 17 = .ok (.iconst 0, 1) := by decide +kernel
theorem dX3_endNumber_18 : decode cX3_endNumber 18 = .ok (.putfield 40, 3) := by decide +kernel
theorem dX3_endNumber_21 : decode cX3_endNumber 21 = .ok (.getstatic 69, 3) := by decide +kernel
theorem dX3_endNumber_24 : decode cX3_endNumber 24 = .ok (.aload_n 0, 1) := by decide +kernel
theorem dX3_endNumber_25 : decode cX3_endNumber 25 = .ok (.getfield 18, 3) := by decide +kernel
theorem dX3_endNumber_28 : decode cX3_endNumber 28 = .ok (.iaload, 1) := by decide +kernel
theorem dX3_endNumber_29 : decode cX3_endNumber 29 = .ok (.aload_n 0, 1) := by decide +kernel
theorem dX3_endNumber_30 : decode cX3_endNumber 30 = .ok (.getfield 72, 3) := by decide +kernel
theorem dX3_endNumber_33 : decode cX3_endNumber 33 = .ok (.iadd, 1) := by decide +kernel
theorem dX3_endNumber_34 : decode cX3_endNumber 34 = .ok (.istore_n 1, 1) := by decide +kernel
theorem dX3_endNumber_35 : decode cX3_endNumber 35 = .ok (.aload_n 0, 1) := by decide +kernel
theorem dX3_endNumber_36 : decode cX3_endNumber 36 = .ok (.getfield 72, 3) := by decide +kernel
theorem dX3_endNumber_39 : decode cX3_endNumber 39 = .ok (.getstatic 75, 3) := by decide +kernel
theorem dX3_endNumber_42 : decode cX3_endNumber 42 = .ok (.aload_n 0, 1) := by decide +kernel
theorem dX3_endNumber_43 : decode cX3_endNumber 43 = .ok (.getfield 18, 3) := by decide +kernel
theorem dX3_endNumber_46 : decode cX3_endNumber 46 = .ok (.iaload, 1) := by decide +kernel
theorem dX3_endNumber_47 : decode cX3_endNumber 47 = .ok (.if_icmp .eq 27, 3) := by decide +kernel
theorem dX3_endNumber_50 : decode cX3_endNumber 50 = .ok (.aload_n 0, 1) := by decide +kernel
theorem dX3_endNumber_51 : decode cX3_endNumber 51 = .ok (.getfield 63, 3) := by decide +kernel
theorem dX3_endNumber_54 : decode cX3_endNumber 54 = .ok (.getstatic 78, 3) := by decide +kernel
theorem dX3_endNumber_57 : decode cX3_endNumber 57 = .ok (.iload_n 1, 1) := by decide +kernel
theorem dX3_endNumber_58 : decode cX3_endNumber 58 = .ok (.iaload, 1) := by decide +kernel
theorem dX3_endNumber_59 : decode cX3_endNumber 59 = .ok (.if_icmp .lt 15, 3) := by decide +kernel
theorem dX3_endNumber_62 : decode cX3_endNumber 62 = .ok (.aload_n 0, 1) := by decide +kernel
theorem dX3_endNumber_63 : decode cX3_endNumber 63 = .ok (.getfield 63, 3) := by decide +kernel
theorem dX3_endNumber_66 : decode cX3_endNumber 66 = .ok (.getstatic 81, 3) := by decide +kernel
theorem dX3_endNumber_69 : decode cX3_endNumber 69 = .ok (.iload_n 1, 1) := by decide +kernel
theorem dX3_endNumber_70 : decode cX3_endNumber 70 = .ok (.iaload, 1) := by decide +kernel
theorem dX3_endNumber_71 : decode cX3_endNumber 71 = .ok (.if_icmp .le 13, 3) := by decide +kernel
theorem dX3_endNumber_74 : decode cX3_endNumber 74 = .ok (.aload_n 0, 1) := by decide +kernel
theorem dX3_endNumber_75 : decode cX3_endNumber 75 = .ok (.iconst 2, 1) := by decide +kernel
theorem dX3_endNumber_76 : decode cX3_endNumber 76 = .ok (.aload_n 0, 1) := by decide +kernel
theorem dX3_endNumber_77 : decode cX3_endNumber 77 = .ok (.getfield 66, 3) := by decide +kernel
theorem dX3_endNumber_80 : decode cX3_endNumber 80 = .ok (.invokevirtual 50, 3) := by decide +kernel
theorem dX3_endNumber_83 : decode cX3_endNumber 83 = .ok (.return_, 1) := by decide +kernel
theorem dX3_endNumber_84 : decode cX3_endNumber 84 = .ok (.aload_n 0, 1) := by decide +kernel
theorem dX3_endNumber_85 : decode cX3_endNumber 85 = .ok (.getfield 15, 3) := by decide +kernel
theorem dX3_endNumber_88 : decode cX3_endNumber 88 = .ok (.iload_n 1, 1) := by decide +kernel
theorem dX3_endNumber_89 : decode cX3_endNumber 89 = .ok (.aload_n 0, 1) := by decide +kernel
theorem dX3_endNumber_90 : decode cX3_endNumber 90 = .ok (.getfield 63, 3) := by decide +kernel
theorem dX3_endNumber_93 : decode cX3_endNumber 93 = .ok (.iastore, 1) := by decide +kernel
theorem dX3_endNumber_94 : decode cX3_endNumber 94 = .ok (.aload_n 0, 1) := by decide +kernel
theorem dX3_endNumber_95 : decode cX3_endNumber 95 = .ok (.dup, 1) := by decide +kernel
theorem dX3_endNumber_96 : decode cX3_endNumber 96 = .ok (.getfield 72, 3) := by decide +kernel
theorem dX3_endNumber_99 : decode cX3_endNumber 99 = .ok (.iconst 1, 1) := by decide +kernel
theorem dX3_endNumber_100 : decode cX3_endNumber 100 = .ok (.iadd, 1) := by decide +kernel
theorem dX3_endNumber_101 : decode cX3_endNumber 101 = .ok (.putfield 72, 3) := by decide +kernel
theorem dX3_endNumber_104 : decode cX3_endNumber 104 = .ok (.return_, 1) := by decide +kernel
theorem dX3_beginItem_0 : decode cX3_beginItem 0 = .ok (.iload_n 1, 1) := by decide +kernel
theorem dX3_beginItem_1 : decode cX3_beginItem 1 = .ok (.invokestatic 84, 3) := by decide +kernel
theorem dX3_beginItem_4 : decode cX3_beginItem 4 = .ok (.istore_n 3, 1) := by decide +kernel
theorem dX3_beginItem_5 : decode cX3_beginItem 5 = .ok (.aload_n 0, 1) := by decide +kernel
theorem dX3_beginItem_6 : decode cX3_beginItem 6 = .ok (.getfield 18, 3) := by decide +kernel
theorem dX3_beginItem_9 : decode cX3_beginItem 9 = .ok (.iconst (-1), 1) := by decide +kernel
theorem dX3_beginItem_10 : decode cX3_beginItem 10 = .ok (.if_icmp .ne 8, 3) := by decide +kernel
theorem dX3_beginItem_13 : decode cX3_beginItem 13 = .ok (.iload_n 3, 1) := by decide +kernel
theorem dX3_beginItem_14 : decode cX3_beginItem 14 = .ok (.iconst (-1), 1) := by decide +kernel
theorem dX3_beginItem_15 : decode cX3_beginItem 15 = .ok (.if_icmp .ne 10, 3) := by decide +kernel
theorem dX3_beginItem_18 : decode cX3_beginItem 18 = .ok (.aload_n 0, 1) := by decide +kernel
theorem dX3_beginItem_19 : decode cX3_beginItem 19 = .ok (.iconst 1, 1) := by decide +kernel
theorem dX3_beginItem_20 : decode cX3_beginItem 20 = .ok (.iload_n 2, 1) := by decide +kernel
theorem dX3_beginItem_21 : decode cX3_beginItem 21 = .ok (.invokevirtual 50, 3) := by decide +kernel
theorem dX3_beginItem_24 : decode cX3_beginItem 24 = .ok (.return_, 1) := by decide +kernel
theorem dX3_beginItem_25 : decode cX3_beginItem 25 = .ok (.aload_n 0, 1) := by decide +kernel
theorem dX3_beginItem_26 : decode cX3_beginItem 26 = .ok (.iload_n 3, 1) := by decide +kernel
theorem dX3_beginItem_27 : decode cX3_beginItem 27 = .ok (.putfield 18, 3) := by decide +kernel
theorem dX3_beginItem_30 : decode cX3_beginItem 30 = .ok (.aload_n 0, 1) := by decide +kernel
theorem dX3_beginItem_31 : decode cX3_beginItem 31 = .ok (.iconst 0, 1) := by decide +kernel
theorem dX3_beginItem_32 : decode cX3_beginItem 32 = .ok (.putfield 72, 3) := by decide +kernel
theorem dX3_beginItem_35 : decode cX3_beginItem 35 = .ok (.return_, 1) := by decide +kernel
theorem dX3_endItem_0 : decode cX3_endItem 0 = .ok (.aload_n 0, 1) := by decide +kernel
theorem dX3_endItem_1 : decode cX3_endItem 1 = .ok (.getfield 18, 3) := by decide +kernel
theorem dX3_endItem_4 : decode cX3_endItem 4 = .ok (.iconst (-1), 1) := by decide +kernel
theorem dX3_endItem_5 : decode cX3_endItem 5 = .ok (.if_icmp .ne 12, 3) := by decide +kernel
theorem dX3_endItem_8 : decode cX3_endItem 8 = .ok (.aload_n 0, 1) := by decide +kernel
theorem dX3_endItem_9 : decode cX3_endItem 9 = .ok (.iconst 1, 1) := by decide +kernel
theorem dX3_endItem_10 : decode cX3_endItem 10 = .ok (.iload_n 1, 1) := by decide +kernel
theorem dX3_endItem_11 : decode cX3_endItem 11 = .ok (.invokevirtual 50, 3) := by decide +kernel
theorem dX3_endItem_14 : decode cX3_endItem 14 = .ok (.goto 53, 3) := by decide +kernel
theorem dX3_endItem_17 : decode cX3_endItem 17 = .ok (.aload_n 0, 1) := by decide +kernel
theorem dX3_endItem_18 : decode cX3_endItem 18 = .ok (.getfield 72, 3) := by decide +kernel
theorem dX3_endItem_21 : decode cX3_endItem 21 = .ok (.getstatic 88, 3) := by decide +kernel
theorem dX3_endItem_24 : decode cX3_endItem 24 = .ok (.aload_n 0, 1) := by decide +kernel
theorem dX3_endItem_25 : decode cX3_endItem 25 = .ok (.getfield 18, 3) := by decide +kernel
theorem dX3_endItem_28 : decode cX3_endItem 28 = .ok (.iaload, 1) := by decide +kernel
theorem dX3_endItem_29 : decode cX3_endItem 29 = .ok (.if_icmp .lt 10, 3) := by decide +kernel
theorem dX3_endItem_32 : decode cX3_endItem 32 = .ok (.aload_n 0, 1) := by decide +kernel
theorem dX3_endItem_33 : decode cX3_endItem 33 = .ok (.invokevirtual 91, 3) := by decide +kernel
theorem dX3_endItem_36 : decode cX3_endItem 36 = .ok (.ifCond .eq 12, 3) := by decide +kernel
theorem dX3_endItem_39 : decode cX3_endItem 39 = .ok (.aload_n 0, 1) := by decide +kernel
theorem dX3_endItem_40 : decode cX3_endItem 40 = .ok (.iconst 3, 1) := by decide +kernel
theorem dX3_endItem_41 : decode cX3_endItem 41 = .ok (.iload_n 1, 1) := by decide +kernel
theorem dX3_endItem_42 : decode cX3_endItem 42 = .ok (.invokevirtual 50, 3) := by decide +kernel
theorem dX3_endItem_45 : decode cX3_endItem 45 = .ok (.goto 22, 3) := by decide +kernel
theorem dX3_endItem_48 : decode cX3_endItem 48 = .ok (.aload_n 0, 1) := by decide +kernel
theorem dX3_endItem_49 : decode cX3_endItem 49 = .ok (.invokevirtual 95, 3) := by decide +kernel
theorem dX3_endItem_52 : decode cX3_endItem 52 = .ok (.aload_n 0, 1) := by decide +kernel
theorem dX3_endItem_53 : decode cX3_endItem 53 = .ok (.dup, 1) := by decide +kernel
theorem dX3_endItem_54 : decode cX3_endItem 54 = .ok (.getfield 31, 3) := by decide +kernel
theorem dX3_endItem_57 : decode cX3_endItem 57 = .ok (.iconst 1, 1) := by decide +kernel
theorem dX3_endItem_58 : decode cX3_endItem 58 = .ok (.iadd, 1) := by decide +kernel
theorem dX3_endItem_59 : decode cX3_endItem 59 = .ok (.putfield 31, 3) := by decide +kernel
theorem dX3_endItem_62 : decode cX3_endItem 62 = .ok (.aload_n 0, 1) := by decide +kernel
theorem dX3_endItem_63 : decode cX3_endItem 63 = .ok (.iconst (-1), 1) := by decide +kernel
theorem dX3_endItem_64 : decode cX3_endItem 64 = .ok (.putfield 18, 3) := by decide +kernel
theorem dX3_endItem_67 : decode cX3_endItem 67 = .ok (.return_, 1) := by decide +kernel
theorem dX3_indexOfLetter_0 : decode cX3_indexOfLetter 0 = .ok (.iconst 0, 1) := by decide +kernel
theorem dX3_indexOfLetter_1 : decode cX3_indexOfLetter 1 = .ok (.istore_n 1, 1) := by decide +kernel
theorem dX3_indexOfLetter_2 : decode cX3_indexOfLetter 2 = .ok (.iload_n 1, 1) := by decide +kernel
theorem dX3_indexOfLetter_3 : decode cX3_indexOfLetter 3 = .ok (.getstatic 98, 3) := by decide +kernel
theorem dX3_indexOfLetter_6 : decode cX3_indexOfLetter 6 = .ok (.arraylength, 1) := by decide +kernel
theorem dX3_indexOfLetter_7 : decode cX3_indexOfLetter 7 = .ok (.if_icmp .ge 20, 3) := by decide +kernel
theorem dX3_indexOfLetter_10 : decode cX3_indexOfLetter 10 = .ok (.getstatic 98, 3) := by decide +kernel
theorem dX3_indexOfLetter_13 : decode cX3_indexOfLetter 13 = .ok (.iload_n 1, 1) := by decide +kernel
theorem dX3_indexOfLetter_14 : decode cX3_indexOfLetter 14 = .ok (.caload, 1) := by decide +kernel
theorem dX3_indexOfLetter_15 : decode cX3_indexOfLetter 15 = .ok (.iload_n 0, 1) := by decide +kernel
theorem dX3_indexOfLetter_16 : decode cX3_indexOfLetter 16 = .ok (.if_icmp .ne 5, 3) := by decide +kernel
theorem dX3_indexOfLetter_19 : decode cX3_indexOfLetter 19 = .ok (.iload_n 1, 1) := by decide +kernel
theorem dX3_indexOfLetter_20 : decode cX3_indexOfLetter 20 = .ok (.ireturn, 1) := by decide +kernel
theorem dX3_indexOfLetter_21 : decode cX3_indexOfLetter 21 = .ok (.iinc 1 1, 3) := by decide +kernel
theorem dX3_indexOfLetter_24 : decode cX3_indexOfLetter 24 = .ok (.goto (-22), 3) := by decide +kernel
theorem dX3_indexOfLetter_27 : decode cX3_indexOfLetter 27 = .ok (.iconst (-1), 1) := by decide +kernel
theorem dX3_indexOfLetter_28 : decode cX3_indexOfLetter 28 = .ok (.ireturn, 1) := by decide +kernel
theorem dX3_endsWrongWeights_0 : decode cX3_endsWrongWeights 0 = .ok (.iconst 0, 1) := by decide +kernel
theorem dX3_endsWrongWeights_1 : decode cX3_endsWrongWeights 1 = .ok (.istore_n 1, 1) := by decide +kernel
theorem dX3_endsWrongWeights_2 : decode cX3_endsWrongWeights 2 = .ok (.iconst 0, 1) := by decide +kernel
theorem dX3_endsWrongWeights_3 : decode cX3_endsWrongWeights 3 = .ok (.istore_n 2, 1) := by decide +kernel
theorem dX3_endsWrongWeights_4 : decode cX3_endsWrongWeights 4 = .ok (.iload_n 2, 1) := by decide +kernel
theorem dX3_endsWrongWeights_5 : decode cX3_endsWrongWeights 5 = .ok (.iconst 5, 1) := by decide +kernel
theorem dX3_endsWrongWeights_6 : decode cX3_endsWrongWeights 6 = .ok (.if_icmp .ge 21, 3) := by decide +kernel
theorem dX3_endsWrongWeights_9 : decode cX3_endsWrongWeights 9 = .ok (.iload_n 1, 1) := by decide +kernel
theorem dX3_endsWrongWeights_10 : decode cX3_endsWrongWeights 10 = .ok (.aload_n 0, 1) := by decide +kernel
theorem dX3_endsWrongWeights_11 : decode cX3_endsWrongWeights 11 = .ok (.getfield 15, 3) := by decide +kernel
theorem dX3_endsWrongWeights_14 : decode cX3_endsWrongWeights 14 = .ok (.bipush 15, 2) := by decide +kernel
theorem dX3_endsWrongWeights_16 : decode cX3_endsWrongWeights 16 = .ok (.iload_n 2, 1) := by decide +kernel
theorem dX3_endsWrongWeights_17 : decode cX3_endsWrongWeights 17 = .ok (.iadd, 1) := by decide +kernel
theorem dX3_endsWrongWeights_18 : decode cX3_endsWrongWeights 18 = .ok (.iaload, 1) := by decide +kernel
theorem dX3_endsWrongWeights_19 : decode cX3_endsWrongWeights 19 = .ok (.iadd, 1) := by decide +kernel
theorem dX3_endsWrongWeights_20 : decode cX3_endsWrongWeights 20 = .ok (.istore_n 1, 1) := by decide +kernel
theorem dX3_endsWrongWeights_21 : decode cX3_endsWrongWeights 21 = .ok (.iinc 2 1, 3) := by decide +kernel
theorem dX3_endsWrongWeights_24 : decode cX3_endsWrongWeights 24 = .ok (.goto (-20), 3) := by decide +kernel
theorem dX3_endsWrongWeights_27 : decode cX3_endsWrongWeights 27 = .ok (.getstatic 69, 3) := by decide +kernel
theorem dX3_endsWrongWeights_30 : decode cX3_endsWrongWeights 30 = .ok (.aload_n 0, 1) := by decide +kernel
theorem dX3_endsWrongWeights_31 : decode cX3_endsWrongWeights 31 = .ok (.getfield 18, 3) := by decide +kernel
theorem dX3_endsWrongWeights_34 : decode cX3_endsWrongWeights 34 = .ok (.iaload, 1) := by decide +kernel
theorem dX3_endsWrongWeights_35 : decode cX3_endsWrongWeights 35 = .ok (.bipush 15, 2) := by decide +kernel
theorem dX3_endsWrongWeights_37 : decode cX3_endsWrongWeights 37 = .ok (.if_icmp .ne 13, 3) := by decide +kernel
theorem dX3_endsWrongWeights_40 : decode cX3_endsWrongWeights 40 = .ok (.iload_n 1, 1) := by decide +kernel
theorem dX3_endsWrongWeights_41 : decode cX3_endsWrongWeights 41 = .ok (.bipush 10, 2) := by decide +kernel
theorem dX3_endsWrongWeights_43 : decode cX3_endsWrongWeights 43 = .ok (.if_icmp .eq 7, 3) := by decide +kernel
theorem dX3_endsWrongWeights_46 : decode cX3_endsWrongWeights 46 = .ok (.iconst 1, 1) := by decide +kernel
theorem dX3_endsWrongWeights_47 : decode cX3_endsWrongWeights 47 = .ok (.goto 4, 3) := by decide +kernel
theorem dX3_endsWrongWeights_50 : decode cX3_endsWrongWeights 50 = .ok (.iconst 0, 1) := by decide +kernel
theorem dX3_endsWrongWeights_51 : decode cX3_endsWrongWeights 51 = .ok (.ireturn, 1) := by decide +kernel
theorem dX3_clearOtherPayoffs_0 : decode cX3_clearOtherPayoffs 0 = .ok (.getstatic 69, 3) := by decide +kernel
theorem dX3_clearOtherPayoffs_3 : decode cX3_clearOtherPayoffs 3 = .ok (.aload_n 0, 1) := by decide +kernel
theorem dX3_clearOtherPayoffs_4 : decode cX3_clearOtherPayoffs 4 = .ok (.getfield 18, 3) := by decide +kernel
theorem dX3_clearOtherPayoffs_7 : decode cX3_clearOtherPayoffs 7 = .ok (.iaload, 1) := by decide +kernel
theorem dX3_clearOtherPayoffs_8 : decode cX3_clearOtherPayoffs 8 = .ok (.iconst 3, 1) := by decide +kernel
theorem dX3_clearOtherPayoffs_9 : decode cX3_clearOtherPayoffs 9 = .ok (.if_icmp .ne 29, 3) := by decide +kernel
theorem dX3_clearOtherPayoffs_12 : decode cX3_clearOtherPayoffs 12 = .ok (.aload_n 0, 1) := by decide +kernel
theorem dX3_clearOtherPayoffs_13 : decode cX3_clearOtherPayoffs 13 = .ok (.getfield 72, 3) := by decide +kernel
theorem dX3_clearOtherPayoffs_16 : decode cX3_clearOtherPayoffs 16 = .ok (.istore_n 1, 1) := by decide +kernel
theorem dX3_clearOtherPayoffs_17 : decode cX3_clearOtherPayoffs 17 = .ok (.iload_n 1, 1) := by decide +kernel
theorem dX3_clearOtherPayoffs_18 : decode cX3_clearOtherPayoffs 18 = .ok (.bipush 7, 2) := by decide +kernel
theorem dX3_clearOtherPayoffs_20 : decode cX3_clearOtherPayoffs 20 = .ok (.if_icmp .ge 18, 3) := by decide +kernel
theorem dX3_clearOtherPayoffs_23 : decode cX3_clearOtherPayoffs 23 = .ok (.aload_n 0, 1) := by decide +kernel
theorem dX3_clearOtherPayoffs_24 : decode cX3_clearOtherPayoffs 24 = .ok (.getfield 15, 3) := by decide +kernel
theorem dX3_clearOtherPayoffs_27 : decode cX3_clearOtherPayoffs 27 = .ok (.iconst 3, 1) := by decide +kernel
theorem dX3_clearOtherPayoffs_28 : decode cX3_clearOtherPayoffs 28 = .ok (.iload_n 1, 1) := by decide +kernel
theorem dX3_clearOtherPayoffs_29 : decode cX3_clearOtherPayoffs 29 = .ok (.iadd, 1) := by decide +kernel
theorem dX3_clearOtherPayoffs_30 : decode cX3_clearOtherPayoffs 30 = .ok (.iconst 0, 1) := by decide +kernel
theorem dX3_clearOtherPayoffs_31 : decode cX3_clearOtherPayoffs 31 = .ok (.iastore, 1) := by decide +kernel
theorem dX3_clearOtherPayoffs_32 : decode cX3_clearOtherPayoffs 32 = .ok (.iinc 1 1, 3) := by decide +kernel
theorem dX3_clearOtherPayoffs_35 : decode cX3_clearOtherPayoffs 35 = .ok (.goto (-18), 3) := by decide +kernel
theorem dX3_clearOtherPayoffs_38 : decode cX3_clearOtherPayoffs 38 = .ok (.return_, 1) := by decide +kernel
theorem dX3_setFault_0 : decode cX3_setFault 0 = .ok (.aload_n 0, 1) := by decide +kernel
theorem dX3_setFault_1 : decode cX3_setFault 1 = .ok (.iload_n 1, 1) := by decide +kernel
theorem dX3_setFault_2 : decode cX3_setFault 2 = .ok (.putfield 25, 3) := by decide +kernel
theorem dX3_setFault_5 : decode cX3_setFault 5 = .ok (.aload_n 0, 1) := by decide +kernel
theorem dX3_setFault_6 : decode cX3_setFault 6 = .ok (.iload_n 2, 1) := by decide +kernel
theorem dX3_setFault_7 : decode cX3_setFault 7 = .ok (.putfield 28, 3) := by decide +kernel
theorem dX3_setFault_10 : decode cX3_setFault 10 = .ok (.return_, 1) := by decide +kernel
theorem dX4_init_0 : decode cX4_init 0 = .ok (.aload_n 0, 1) := by decide +kernel
theorem dX4_init_1 : decode cX4_init 1 = .ok (.invokespecial 3, 3) := by decide +kernel
theorem dX4_init_4 : decode cX4_init 4 = .ok (.aload_n 0, 1) := by decide +kernel
theorem dX4_init_5 : decode cX4_init 5 = .ok (.iload_n 1, 1) := by decide +kernel
theorem dX4_init_6 : decode cX4_init 6 = .ok (.putfield 9, 3) := by decide +kernel
theorem dX4_init_9 : decode cX4_init 9 = .ok (.aload_n 0, 1) := by decide +kernel
theorem dX4_init_10 : decode cX4_init 10 = .ok (.sipush 1152, 3) := by decide +kernel
theorem dX4_init_13 : decode cX4_init 13 = .ok (.newarray .long, 2) := by decide +kernel
theorem dX4_init_15 : decode cX4_init 15 = .ok (.putfield 15, 3) := by decide +kernel
theorem dX4_init_18 : decode cX4_init 18 = .ok (.aload_n 0, 1) := by decide +kernel
theorem dX4_init_19 : decode cX4_init 19 = .ok (.sipush 192, 3) := by decide +kernel
theorem dX4_init_22 : decode cX4_init 22 = .ok (.newarray .long, 2) := by decide +kernel
theorem dX4_init_24 : decode cX4_init 24 = .ok (.putfield 19, 3) := by decide +kernel
theorem dX4_init_27 : decode cX4_init 27 = .ok (.aload_n 0, 1) := by decide +kernel
theorem dX4_init_28 : decode cX4_init 28 = .ok (.bipush 32, 2) := by decide +kernel
theorem dX4_init_30 : decode cX4_init 30 = .ok (.newarray .long, 2) := by decide +kernel
theorem dX4_init_32 : decode cX4_init 32 = .ok (.putfield 22, 3) := by decide +kernel
theorem dX4_init_35 : decode cX4_init 35 = .ok (.aload_n 0, 1) := by decide +kernel
theorem dX4_init_36 : decode cX4_init 36 = .ok (.iconst 5, 1) := by decide +kernel
theorem dX4_init_37 : decode cX4_init 37 = .ok (.newarray .long, 2) := by decide +kernel
theorem dX4_init_39 : decode cX4_init 39 = .ok (.putfield 25, 3) := by decide +kernel
theorem dX4_init_42 : decode cX4_init 42 = .ok (.aload_n 0, 1) := by decide +kernel
theorem dX4_init_43 : decode cX4_init 43 = .ok (.iconst 5, 1) := by decide +kernel
theorem dX4_init_44 : decode cX4_init 44 = .ok (.newarray .int, 2) := by decide +kernel
theorem dX4_init_46 : decode cX4_init 46 = .ok (.putfield 28, 3) := by decide +kernel
theorem dX4_init_49 : decode cX4_init 49 = .ok (.return_, 1) := by decide +kernel
theorem dX4_valueBefore_0 : decode cX4_valueBefore 0 = .ok (.aload_n 0, 1) := by decide +kernel
theorem dX4_valueBefore_1 : decode cX4_valueBefore 1 = .ok (.getfield 15, 3) := by decide +kernel
theorem dX4_valueBefore_4 : decode cX4_valueBefore 4 = .ok (.iload_n 1, 1) := by decide +kernel
theorem dX4_valueBefore_5 : decode cX4_valueBefore 5 = .ok (.iload_n 2, 1) := by decide +kernel
theorem dX4_valueBefore_6 : decode cX4_valueBefore 6 = .ok (.iload_n 3, 1) := by decide +kernel
theorem dX4_valueBefore_7 : decode cX4_valueBefore 7 = .ok (.iload 4, 2) := by decide +kernel
theorem dX4_valueBefore_9 : decode cX4_valueBefore 9 = .ok (.invokestatic 32, 3) := by decide +kernel
theorem dX4_valueBefore_12 : decode cX4_valueBefore 12 = .ok (.laload, 1) := by decide +kernel
theorem dX4_valueBefore_13 : decode cX4_valueBefore 13 = .ok (.lreturn, 1) := by decide +kernel
theorem dX4_valueAfterRecall_0 : decode cX4_valueAfterRecall 0 = .ok (.aload_n 0, 1) := by decide +kernel
theorem dX4_valueAfterRecall_1 : decode cX4_valueAfterRecall 1 = .ok (.getfield 19, 3) := by decide +kernel
theorem dX4_valueAfterRecall_4 : decode cX4_valueAfterRecall 4 = .ok (.iload_n 1, 1) := by decide +kernel
theorem dX4_valueAfterRecall_5 : decode cX4_valueAfterRecall 5 = .ok (.iload_n 2, 1) := by decide +kernel
theorem dX4_valueAfterRecall_6 : decode cX4_valueAfterRecall 6 = .ok (.iload_n 3, 1) := by decide +kernel
theorem dX4_valueAfterRecall_7 : decode cX4_valueAfterRecall 7 = .ok (.invokestatic 36, 3) := by decide +kernel
theorem dX4_valueAfterRecall_10 : decode cX4_valueAfterRecall 10 = .ok (.laload, 1) := by decide +kernel
theorem dX4_valueAfterRecall_11 : decode cX4_valueAfterRecall 11 = .ok (.lreturn, 1) := by decide +kernel
theorem dX4_takes_0 : decode cX4_takes 0 = .ok (.aload_n 0, 1) := by decide +kernel
theorem dX4_takes_1 : decode cX4_takes 1 = .ok (.getfield 25, 3) := by decide +kernel
theorem dX4_takes_4 : decode cX4_takes 4 = .ok (.iload 4, 2) := by decide +kernel
theorem dX4_takes_6 : decode cX4_takes 6 = .ok (.laload, 1) := by decide +kernel
theorem dX4_takes_7 : decode cX4_takes 7 = .ok (.aload_n 0, 1) := by decide +kernel
theorem dX4_takes_8 : decode cX4_takes 8 = .ok (.getfield 15, 3) := by decide +kernel
theorem dX4_takes_11 : decode cX4_takes 11 = .ok (.iload_n 1, 1) := by decide +kernel
theorem dX4_takes_12 : decode cX4_takes 12 = .ok (.iconst 1, 1) := by decide +kernel
theorem dX4_takes_13 : decode cX4_takes 13 = .ok (.iadd, 1) := by decide +kernel
theorem dX4_takes_14 : decode cX4_takes 14 = .ok (.iload_n 2, 1) := by decide +kernel
theorem dX4_takes_15 : decode cX4_takes 15 = .ok (.iconst 1, 1) := by decide +kernel
theorem dX4_takes_16 : decode cX4_takes 16 = .ok (.isub, 1) := by decide +kernel
theorem dX4_takes_17 : decode cX4_takes 17 = .ok (.iconst 5, 1) := by decide +kernel
theorem dX4_takes_18 : decode cX4_takes 18 = .ok (.iload_n 3, 1) := by decide +kernel
theorem dX4_takes_19 : decode cX4_takes 19 = .ok (.invokestatic 32, 3) := by decide +kernel
theorem dX4_takes_22 : decode cX4_takes 22 = .ok (.laload, 1) := by decide +kernel
theorem dX4_takes_23 : decode cX4_takes 23 = .ok (.ladd, 1) := by decide +kernel
theorem dX4_takes_24 : decode cX4_takes 24 = .ok (.lstore 5, 2) := by decide +kernel
theorem dX4_takes_26 : decode cX4_takes 26 = .ok (.lload 5, 2) := by decide +kernel
theorem dX4_takes_28 : decode cX4_takes 28 = .ok (.aload_n 0, 1) := by decide +kernel
theorem dX4_takes_29 : decode cX4_takes 29 = .ok (.getfield 15, 3) := by decide +kernel
theorem dX4_takes_32 : decode cX4_takes 32 = .ok (.iload_n 1, 1) := by decide +kernel
theorem dX4_takes_33 : decode cX4_takes 33 = .ok (.iconst 1, 1) := by decide +kernel
theorem dX4_takes_34 : decode cX4_takes 34 = .ok (.iadd, 1) := by decide +kernel
theorem dX4_takes_35 : decode cX4_takes 35 = .ok (.iload_n 2, 1) := by decide +kernel
theorem dX4_takes_36 : decode cX4_takes 36 = .ok (.iload 4, 2) := by decide +kernel
theorem dX4_takes_38 : decode cX4_takes 38 = .ok (.iload_n 3, 1) := by decide +kernel
theorem dX4_takes_39 : decode cX4_takes 39 = .ok (.invokestatic 32, 3) := by decide +kernel
theorem dX4_takes_42 : decode cX4_takes 42 = .ok (.laload, 1) := by decide +kernel
theorem dX4_takes_43 : decode cX4_takes 43 = .ok (.lcmp, 1) := by decide +kernel
theorem dX4_takes_44 : decode cX4_takes 44 = .ok (.ifCond .lt 7, 3) := by decide +kernel
theorem dX4_takes_47 : decode cX4_takes 47 = .ok (.iconst 1, 1) := by decide +kernel
theorem dX4_takes_48 : decode cX4_takes 48 = .ok (.goto 4, 3) := by decide +kernel
theorem dX4_takes_51 : decode cX4_takes 51 = .ok (.iconst 0, 1) := by decide +kernel
theorem dX4_takes_52 : decode cX4_takes 52 = .ok (.ireturn, 1) := by decide +kernel
theorem dX4_bestRecall_0 : decode cX4_bestRecall 0 = .ok (.iload_n 2, 1) := by decide +kernel
theorem dX4_bestRecall_1 : decode cX4_bestRecall 1 = .ok (.ifCond .ne 5, 3) := by decide +kernel
theorem dX4_bestRecall_4 : decode cX4_bestRecall 4 = .ok (.iconst 0, 1) := by decide +kernel
theorem dX4_bestRecall_5 : decode cX4_bestRecall 5 = .ok (.ireturn, 1) := by decide +kernel
theorem dX4_bestRecall_6 : decode cX4_bestRecall 6 = .ok (.iconst 0, 1) := by decide +kernel
theorem dX4_bestRecall_7 : decode cX4_bestRecall 7 = .ok (.istore 5, 2) := by decide +kernel
theorem dX4_bestRecall_9 : decode cX4_bestRecall 9 = .ok (.aload_n 0, 1) := by decide +kernel
theorem dX4_bestRecall_10 : decode cX4_bestRecall 10 = .ok (.iload_n 1, 1) := by decide +kernel
theorem dX4_bestRecall_11 : decode cX4_bestRecall 11 = .ok (.iload_n 2, 1) := by decide +kernel
theorem dX4_bestRecall_12 : decode cX4_bestRecall 12 = .ok (.iload_n 3, 1) := by decide +kernel
theorem dX4_bestRecall_13 : decode cX4_bestRecall 13 = .ok (.invokevirtual 40, 3) := by decide +kernel
theorem dX4_bestRecall_16 : decode cX4_bestRecall 16 = .ok (.lstore 6, 2) := by decide +kernel
theorem dX4_bestRecall_18 : decode cX4_bestRecall 18 = .ok (.iload_n 3, 1) := by decide +kernel
theorem dX4_bestRecall_19 : decode cX4_bestRecall 19 = .ok (.iconst 5, 1) := by decide +kernel
theorem dX4_bestRecall_20 : decode cX4_bestRecall 20 = .ok (.if_icmp .eq 28, 3) := by decide +kernel
theorem dX4_bestRecall_23 : decode cX4_bestRecall 23 = .ok (.aload_n 0, 1) := by decide +kernel
theorem dX4_bestRecall_24 : decode cX4_bestRecall 24 = .ok (.iload_n 1, 1) := by decide +kernel
theorem dX4_bestRecall_25 : decode cX4_bestRecall 25 = .ok (.iload_n 2, 1) := by decide +kernel
theorem dX4_bestRecall_26 : decode cX4_bestRecall 26 = .ok (.iload_n 3, 1) := by decide +kernel
theorem dX4_bestRecall_27 : decode cX4_bestRecall 27 = .ok (.invokevirtual 44, 3) := by decide +kernel
theorem dX4_bestRecall_30 : decode cX4_bestRecall 30 = .ok (.lload 6, 2) := by decide +kernel
theorem dX4_bestRecall_32 : decode cX4_bestRecall 32 = .ok (.lcmp, 1) := by decide +kernel
theorem dX4_bestRecall_33 : decode cX4_bestRecall 33 = .ok (.ifCond .le 15, 3) := by decide +kernel
theorem dX4_bestRecall_36 : decode cX4_bestRecall 36 = .ok (.iconst 1, 1) := by decide +kernel
theorem dX4_bestRecall_37 : decode cX4_bestRecall 37 = .ok (.istore 5, 2) := by decide +kernel
theorem dX4_bestRecall_39 : decode cX4_bestRecall 39 = .ok (.aload_n 0, 1) := by decide +kernel
theorem dX4_bestRecall_40 : decode cX4_bestRecall 40 = .ok (.iload_n 1, 1) := by decide +kernel
theorem dX4_bestRecall_41 : decode cX4_bestRecall 41 = .ok (.iload_n 2, 1) := by decide +kernel
theorem dX4_bestRecall_42 : decode cX4_bestRecall 42 = .ok (.iload_n 3, 1) := by decide +kernel
theorem dX4_bestRecall_43 : decode cX4_bestRecall 43 = .ok (.invokevirtual 44, 3) := by decide +kernel
theorem dX4_bestRecall_46 : decode cX4_bestRecall 46 = .ok (.lstore 6, 2) := by decide +kernel
theorem dX4_bestRecall_48 : decode cX4_bestRecall 48 = .ok (.iload 4, 2) := by decide +kernel
theorem dX4_bestRecall_50 : decode cX4_bestRecall 50 = .ok (.iconst 5, 1) := by decide +kernel
theorem dX4_bestRecall_51 : decode cX4_bestRecall 51 = .ok (.if_icmp .eq 21, 3) := by decide +kernel
theorem dX4_bestRecall_54 : decode cX4_bestRecall 54 = .ok (.aload_n 0, 1) := by decide +kernel
theorem dX4_bestRecall_55 : decode cX4_bestRecall 55 = .ok (.iload_n 1, 1) := by decide +kernel
theorem dX4_bestRecall_56 : decode cX4_bestRecall 56 = .ok (.iload_n 2, 1) := by decide +kernel
theorem dX4_bestRecall_57 : decode cX4_bestRecall 57 = .ok (.iload_n 3, 1) := by decide +kernel
theorem dX4_bestRecall_58 : decode cX4_bestRecall 58 = .ok (.iload 4, 2) := by decide +kernel
theorem dX4_bestRecall_60 : decode cX4_bestRecall 60 = .ok (.invokevirtual 47, 3) := by decide +kernel
theorem dX4_bestRecall_63 : decode cX4_bestRecall 63 = .ok (.lload 6, 2) := by decide +kernel
theorem dX4_bestRecall_65 : decode cX4_bestRecall 65 = .ok (.lcmp, 1) := by decide +kernel
theorem dX4_bestRecall_66 : decode cX4_bestRecall 66 = .ok (.ifCond .le 6, 3) := by decide +kernel
theorem dX4_bestRecall_69 : decode cX4_bestRecall 69 = .ok (.iconst 2, 1) := by decide +kernel
theorem dX4_bestRecall_70 : decode cX4_bestRecall 70 = .ok (.istore 5, 2) := by decide +kernel
theorem dX4_bestRecall_72 : decode cX4_bestRecall 72 = .ok (.iload 5, 2) := by decide +kernel
theorem dX4_bestRecall_74 : decode cX4_bestRecall 74 = .ok (.ireturn, 1) := by decide +kernel
theorem dX4_forget_0 : decode cX4_forget 0 = .ok (.aload_n 0, 1) := by decide +kernel
theorem dX4_forget_1 : decode cX4_forget 1 = .ok (.iconst 0, 1) := by decide +kernel
theorem dX4_forget_2 : decode cX4_forget 2 = .ok (.putfield 51, 3) := by decide +kernel
theorem dX4_forget_5 : decode cX4_forget 5 = .ok (.return_, 1) := by decide +kernel
theorem dX4_solve_0 : decode cX4_solve 0 = .ok (.aload_n 0, 1) := by decide +kernel
theorem dX4_solve_1 : decode cX4_solve 1 = .ok (.getfield 51, 3) := by decide +kernel
theorem dX4_solve_4 : decode cX4_solve 4 = .ok (.ifCond .eq 4, 3) := by decide +kernel
theorem dX4_solve_7 : decode cX4_solve 7 = .ok (.return_, 1) := by decide +kernel
theorem dX4_solve_8 : decode cX4_solve 8 = .ok (.aload_n 0, 1) := by decide +kernel
theorem dX4_solve_9 : decode cX4_solve 9 = .ok (.iconst 1, 1) := by decide +kernel
theorem dX4_solve_10 : decode cX4_solve 10 = .ok (.putfield 51, 3) := by decide +kernel
theorem dX4_solve_13 : decode cX4_solve 13 = .ok (.aload_n 0, 1) := by decide +kernel
theorem dX4_solve_14 : decode cX4_solve 14 = .ok (.aload_n 1, 1) := by decide +kernel
theorem dX4_solve_15 : decode cX4_solve 15 = .ok (.invokevirtual 54, 3) := by decide +kernel
theorem dX4_solve_18 : decode cX4_solve 18 = .ok (.aload_n 0, 1) := by decide +kernel
theorem dX4_solve_19 : decode cX4_solve 19 = .ok (.getfield 58, 3) := by decide +kernel
theorem dX4_solve_22 : decode cX4_solve 22 = .ok (.iconst 1, 1) := by decide +kernel
theorem dX4_solve_23 : decode cX4_solve 23 = .ok (.iadd, 1) := by decide +kernel
theorem dX4_solve_24 : decode cX4_solve 24 = .ok (.istore_n 2, 1) := by decide +kernel
theorem dX4_solve_25 : decode cX4_solve 25 = .ok (.iload_n 2, 1) := by decide +kernel
theorem dX4_solve_26 : decode cX4_solve 26 = .ok (.iconst 1, 1) := by decide +kernel
theorem dX4_solve_27 : decode cX4_solve 27 = .ok (.if_icmp .lt 34, 3) := by decide +kernel
theorem dX4_solve_30 : decode cX4_solve 30 = .ok (.iconst 0, 1) := by decide +kernel
theorem dX4_solve_31 : decode cX4_solve 31 = .ok (.istore_n 3, 1) := by decide +kernel
theorem dX4_solve_32 : decode cX4_solve 32 = .ok (.iload_n 3, 1) := by decide +kernel
theorem dX4_solve_33 : decode cX4_solve 33 = .ok (.iconst 3, 1) := by decide +kernel
theorem dX4_solve_34 : decode cX4_solve 34 = .ok (.if_icmp .gt 21, 3) := by decide +kernel
theorem dX4_solve_37 : decode cX4_solve 37 = .ok (.aload_n 0, 1) := by decide +kernel
theorem dX4_solve_38 : decode cX4_solve 38 = .ok (.iload_n 2, 1) := by decide +kernel
theorem dX4_solve_39 : decode cX4_solve 39 = .ok (.iload_n 3, 1) := by decide +kernel
theorem dX4_solve_40 : decode cX4_solve 40 = .ok (.invokevirtual 62, 3) := by decide +kernel
theorem dX4_solve_43 : decode cX4_solve 43 = .ok (.aload_n 0, 1) := by decide +kernel
theorem dX4_solve_44 : decode cX4_solve 44 = .ok (.iload_n 2, 1) := by decide +kernel
theorem dX4_solve_45 : decode cX4_solve 45 = .ok (.iload_n 3, 1) := by decide +kernel
theorem dX4_solve_46 : decode cX4_solve 46 = .ok (.invokevirtual 66, 3) := by decide +kernel
theorem dX4_solve_49 : decode cX4_solve 49 = .ok (.iinc 3 1, 3) := by decide +kernel
theorem dX4_solve_52 : decode cX4_solve 52 = .ok (.goto (-20), 3) := by decide +kernel
theorem dX4_solve_55 : decode cX4_solve 55 = .ok (.iinc 2 (-1), 3) := by decide +kernel
theorem dX4_solve_58 : decode cX4_solve 58 = .ok (.goto (-33), 3) := by decide +kernel
theorem dX4_solve_61 : decode cX4_solve 61 = .ok (.return_, 1) := by decide +kernel
theorem dX4_valueOfFixed_0 : decode cX4_valueOfFixed 0 = .ok (.iconst 1, 1) := by decide +kernel
theorem dX4_valueOfFixed_1 : decode cX4_valueOfFixed 1 = .ok (.istore_n 3, 1) := by decide +kernel
theorem dX4_valueOfFixed_2 : decode cX4_valueOfFixed 2 = .ok (.iload_n 3, 1) := by decide +kernel
theorem dX4_valueOfFixed_3 : decode cX4_valueOfFixed 3 = .ok (.iload_n 2, 1) := by decide +kernel
theorem dX4_valueOfFixed_4 : decode cX4_valueOfFixed 4 = .ok (.if_icmp .gt 25, 3) := by decide +kernel
theorem dX4_valueOfFixed_7 : decode cX4_valueOfFixed 7 = .ok (.aload_n 0, 1) := by decide +kernel
theorem dX4_valueOfFixed_8 : decode cX4_valueOfFixed 8 = .ok (.getfield 22, 3) := by decide +kernel
theorem dX4_valueOfFixed_11 : decode cX4_valueOfFixed 11 = .ok (.aload_n 0, 1) := by decide +kernel
theorem dX4_valueOfFixed_12 : decode cX4_valueOfFixed 12 = .ok (.getfield 58, 3) := by decide +kernel
theorem dX4_valueOfFixed_15 : decode cX4_valueOfFixed 15 = .ok (.iconst 1, 1) := by decide +kernel
theorem dX4_valueOfFixed_16 : decode cX4_valueOfFixed 16 = .ok (.iadd, 1) := by decide +kernel
theorem dX4_valueOfFixed_17 : decode cX4_valueOfFixed 17 = .ok (.iload_n 3, 1) := by decide +kernel
theorem dX4_valueOfFixed_18 : decode cX4_valueOfFixed 18 = .ok (.invokestatic 69, 3) := by decide +kernel
theorem dX4_valueOfFixed_21 : decode cX4_valueOfFixed 21 = .ok (.lconst 0, 1) := by decide +kernel
theorem dX4_valueOfFixed_22 : decode cX4_valueOfFixed 22 = .ok (.lastore, 1) := by decide +kernel
theorem dX4_valueOfFixed_23 : decode cX4_valueOfFixed 23 = .ok (.iinc 3 1, 3) := by decide +kernel
theorem dX4_valueOfFixed_26 : decode cX4_valueOfFixed 26 = .ok (.goto (-24), 3) := by decide +kernel
theorem dX4_valueOfFixed_29 : decode cX4_valueOfFixed 29 = .ok (.aload_n 0, 1) := by decide +kernel
theorem dX4_valueOfFixed_30 : decode cX4_valueOfFixed 30 = .ok (.getfield 58, 3) := by decide +kernel
theorem dX4_valueOfFixed_33 : decode cX4_valueOfFixed 33 = .ok (.istore_n 3, 1) := by decide +kernel
theorem dX4_valueOfFixed_34 : decode cX4_valueOfFixed 34 = .ok (.iload_n 3, 1) := by decide +kernel
theorem dX4_valueOfFixed_35 : decode cX4_valueOfFixed 35 = .ok (.iconst 1, 1) := by decide +kernel
theorem dX4_valueOfFixed_36 : decode cX4_valueOfFixed 36 = .ok (.if_icmp .lt 48, 3) := by decide +kernel
theorem dX4_valueOfFixed_39 : decode cX4_valueOfFixed 39 = .ok (.iconst 1, 1) := by decide +kernel
theorem dX4_valueOfFixed_40 : decode cX4_valueOfFixed 40 = .ok (.istore 4, 2) := by decide +kernel
theorem dX4_valueOfFixed_42 : decode cX4_valueOfFixed 42 = .ok (.iload 4, 2) := by decide +kernel
theorem dX4_valueOfFixed_44 : decode cX4_valueOfFixed 44 = .ok (.iload_n 2, 1) := by decide +kernel
theorem dX4_valueOfFixed_45 : decode cX4_valueOfFixed 45 = .ok (.if_icmp .gt 33, 3) := by decide +kernel
theorem dX4_valueOfFixed_48 : decode cX4_valueOfFixed 48 = .ok (.aload_n 0, 1) := by decide +kernel
theorem dX4_valueOfFixed_49 : decode cX4_valueOfFixed 49 = .ok (.getfield 22, 3) := by decide +kernel
theorem dX4_valueOfFixed_52 : decode cX4_valueOfFixed 52 = .ok (.iload_n 3, 1) := by decide +kernel
theorem dX4_valueOfFixed_53 : decode cX4_valueOfFixed 53 = .ok (.iload 4, 2) := by decide +kernel
theorem dX4_valueOfFixed_55 : decode cX4_valueOfFixed 55 = .ok (.invokestatic 69, 3) := by decide +kernel
theorem dX4_valueOfFixed_58 : decode cX4_valueOfFixed 58 = .ok (.aload_n 0, 1) := by decide +kernel
theorem dX4_valueOfFixed_59 : decode cX4_valueOfFixed 59 = .ok (.iload_n 1, 1) := by decide +kernel
theorem dX4_valueOfFixed_60 : decode cX4_valueOfFixed 60 = .ok (.iload_n 3, 1) := by decide +kernel
theorem dX4_valueOfFixed_61 : decode cX4_valueOfFixed 61 = .ok (.iload 4, 2) := by decide +kernel
theorem dX4_valueOfFixed_63 : decode cX4_valueOfFixed 63 = .ok (.invokevirtual 73, 3) := by decide +kernel
theorem dX4_valueOfFixed_66 : decode cX4_valueOfFixed 66 = .ok (.aload_n 0, 1) := by decide +kernel
theorem dX4_valueOfFixed_67 : decode cX4_valueOfFixed 67 = .ok (.getfield 76, 3) := by decide +kernel
theorem dX4_valueOfFixed_70 : decode cX4_valueOfFixed 70 = .ok (.lsub, 1) := by decide +kernel
theorem dX4_valueOfFixed_71 : decode cX4_valueOfFixed 71 = .ok (.lastore, 1) := by decide +kernel
theorem dX4_valueOfFixed_72 : decode cX4_valueOfFixed 72 = .ok (.iinc 4 1, 3) := by decide +kernel
theorem dX4_valueOfFixed_75 : decode cX4_valueOfFixed 75 = .ok (.goto (-33), 3) := by decide +kernel
theorem dX4_valueOfFixed_78 : decode cX4_valueOfFixed 78 = .ok (.iinc 3 (-1), 3) := by decide +kernel
theorem dX4_valueOfFixed_81 : decode cX4_valueOfFixed 81 = .ok (.goto (-47), 3) := by decide +kernel
theorem dX4_valueOfFixed_84 : decode cX4_valueOfFixed 84 = .ok (.aload_n 0, 1) := by decide +kernel
theorem dX4_valueOfFixed_85 : decode cX4_valueOfFixed 85 = .ok (.getfield 22, 3) := by decide +kernel
theorem dX4_valueOfFixed_88 : decode cX4_valueOfFixed 88 = .ok (.iconst 1, 1) := by decide +kernel
theorem dX4_valueOfFixed_89 : decode cX4_valueOfFixed 89 = .ok (.iload_n 2, 1) := by decide +kernel
theorem dX4_valueOfFixed_90 : decode cX4_valueOfFixed 90 = .ok (.invokestatic 69, 3) := by decide +kernel
theorem dX4_valueOfFixed_93 : decode cX4_valueOfFixed 93 = .ok (.laload, 1) := by decide +kernel
theorem dX4_valueOfFixed_94 : decode cX4_valueOfFixed 94 = .ok (.lreturn, 1) := by decide +kernel
theorem dX4_place_0 : decode cX4_place 0 = .ok (.iload_n 0, 1) := by decide +kernel
theorem dX4_place_1 : decode cX4_place 1 = .ok (.iconst 1, 1) := by decide +kernel
theorem dX4_place_2 : decode cX4_place 2 = .ok (.isub, 1) := by decide +kernel
theorem dX4_place_3 : decode cX4_place 3 = .ok (.iconst 4, 1) := by decide +kernel
theorem dX4_place_4 : decode cX4_place 4 = .ok (.imul, 1) := by decide +kernel
theorem dX4_place_5 : decode cX4_place 5 = .ok (.iload_n 1, 1) := by decide +kernel
theorem dX4_place_6 : decode cX4_place 6 = .ok (.iadd, 1) := by decide +kernel
theorem dX4_place_7 : decode cX4_place 7 = .ok (.ireturn, 1) := by decide +kernel
theorem dX4_placeAfter_0 : decode cX4_placeAfter 0 = .ok (.iload_n 0, 1) := by decide +kernel
theorem dX4_placeAfter_1 : decode cX4_placeAfter 1 = .ok (.iconst 1, 1) := by decide +kernel
theorem dX4_placeAfter_2 : decode cX4_placeAfter 2 = .ok (.isub, 1) := by decide +kernel
theorem dX4_placeAfter_3 : decode cX4_placeAfter 3 = .ok (.iconst 4, 1) := by decide +kernel
theorem dX4_placeAfter_4 : decode cX4_placeAfter 4 = .ok (.imul, 1) := by decide +kernel
theorem dX4_placeAfter_5 : decode cX4_placeAfter 5 = .ok (.iload_n 1, 1) := by decide +kernel
theorem dX4_placeAfter_6 : decode cX4_placeAfter 6 = .ok (.iadd, 1) := by decide +kernel
theorem dX4_placeAfter_7 : decode cX4_placeAfter 7 = .ok (.bipush 6, 2) := by decide +kernel
theorem dX4_placeAfter_9 : decode cX4_placeAfter 9 = .ok (.imul, 1) := by decide +kernel
theorem dX4_placeAfter_10 : decode cX4_placeAfter 10 = .ok (.iload_n 2, 1) := by decide +kernel
theorem dX4_placeAfter_11 : decode cX4_placeAfter 11 = .ok (.iadd, 1) := by decide +kernel
theorem dX4_placeAfter_12 : decode cX4_placeAfter 12 = .ok (.ireturn, 1) := by decide +kernel
theorem dX4_placeBefore_0 : decode cX4_placeBefore 0 = .ok (.iload_n 0, 1) := by decide +kernel
theorem dX4_placeBefore_1 : decode cX4_placeBefore 1 = .ok (.iconst 1, 1) := by decide +kernel
theorem dX4_placeBefore_2 : decode cX4_placeBefore 2 = .ok (.isub, 1) := by decide +kernel
theorem dX4_placeBefore_3 : decode cX4_placeBefore 3 = .ok (.iconst 4, 1) := by decide +kernel
theorem dX4_placeBefore_4 : decode cX4_placeBefore 4 = .ok (.imul, 1) := by decide +kernel
theorem dX4_placeBefore_5 : decode cX4_placeBefore 5 = .ok (.iload_n 1, 1) := by decide +kernel
theorem dX4_placeBefore_6 : decode cX4_placeBefore 6 = .ok (.iadd, 1) := by decide +kernel
theorem dX4_placeBefore_7 : decode cX4_placeBefore 7 = .ok (.bipush 6, 2) := by decide +kernel
theorem dX4_placeBefore_9 : decode cX4_placeBefore 9 = .ok (.imul, 1) := by decide +kernel
theorem dX4_placeBefore_10 : decode cX4_placeBefore 10 = .ok (.iload_n 2, 1) := by decide +kernel
theorem dX4_placeBefore_11 : decode cX4_placeBefore 11 = .ok (.iadd, 1) := by decide +kernel
theorem dX4_placeBefore_12 : decode cX4_placeBefore 12 = .ok (.bipush 6, 2) := by decide +kernel
theorem dX4_placeBefore_14 : decode cX4_placeBefore 14 = .ok (.imul, 1) := by decide +kernel
theorem dX4_placeBefore_15 : decode cX4_placeBefore 15 = .ok (.iload_n 3, 1) := by decide +kernel
theorem dX4_placeBefore_16 : decode cX4_placeBefore 16 = .ok (.iadd, 1) := by decide +kernel
theorem dX4_placeBefore_17 : decode cX4_placeBefore 17 = .ok (.ireturn, 1) := by decide +kernel
theorem dX4_readParameters_0 : decode cX4_readParameters 0 = .ok (.aload_n 0, 1) := by decide +kernel
theorem dX4_readParameters_1 : decode cX4_readParameters 1 = .ok (.aload_n 1, 1) := by decide +kernel
theorem dX4_readParameters_2 : decode cX4_readParameters 2 = .ok (.iconst 0, 1) := by decide +kernel
theorem dX4_readParameters_3 : decode cX4_readParameters 3 = .ok (.iaload, 1) := by decide +kernel
theorem dX4_readParameters_4 : decode cX4_readParameters 4 = .ok (.putfield 58, 3) := by decide +kernel
theorem dX4_readParameters_7 : decode cX4_readParameters 7 = .ok (.aload_n 0, 1) := by decide +kernel
theorem dX4_readParameters_8 : decode cX4_readParameters 8 = .ok (.aload_n 1, 1) := by decide +kernel
theorem dX4_readParameters_9 : decode cX4_readParameters 9 = .ok (.iconst 2, 1) := by decide +kernel
theorem dX4_readParameters_10 : decode cX4_readParameters 10 = .ok (.iaload, 1) := by decide +kernel
theorem dX4_readParameters_11 : decode cX4_readParameters 11 = .ok (.i2l, 1) := by decide +kernel
theorem dX4_readParameters_12 : decode cX4_readParameters 12 = .ok (.ldc2_w 80, 3) := by decide +kernel
theorem dX4_readParameters_15 : decode cX4_readParameters 15 = .ok (.lmul, 1) := by decide +kernel
theorem dX4_readParameters_16 : decode cX4_readParameters 16 = .ok (.putfield 76, 3) := by decide +kernel
theorem dX4_readParameters_19 : decode cX4_readParameters 19 = .ok (.aload_n 0, 1) := by decide +kernel
theorem dX4_readParameters_20 : decode cX4_readParameters 20 = .ok (.aload_n 0, 1) := by decide +kernel
theorem dX4_readParameters_21 : decode cX4_readParameters 21 = .ok (.getfield 9, 3) := by decide +kernel
theorem dX4_readParameters_24 : decode cX4_readParameters 24 = .ok (.ifCond .eq 10, 3) := by decide +kernel
theorem dX4_readParameters_27 : decode cX4_readParameters 27 = .ok (.aload_n 1, 1) := by decide +kernel
theorem dX4_readParameters_28 : decode cX4_readParameters 28 = .ok (.bipush 20, 2) := by decide +kernel
theorem dX4_readParameters_30 : decode cX4_readParameters 30 = .ok (.iaload, 1) := by decide +kernel
theorem dX4_readParameters_31 : decode cX4_readParameters 31 = .ok (.goto 4, 3) := by decide +kernel
theorem dX4_readParameters_34 : decode cX4_readParameters 34 = .ok (.iconst 0, 1) := by decide +kernel
theorem dX4_readParameters_35 : decode cX4_readParameters 35 = .ok (.putfield 82, 3) := by decide +kernel
theorem dX4_readParameters_38 : decode cX4_readParameters 38 = .ok (.aload_n 0, 1) := by decide +kernel
theorem dX4_readParameters_39 : decode cX4_readParameters 39 = .ok (.aload_n 0, 1) := by decide +kernel
theorem dX4_readParameters_40 : decode cX4_readParameters 40 = .ok (.getfield 9, 3) := by decide +kernel
theorem dX4_readParameters_43 : decode cX4_readParameters 43 = .ok (.ifCond .eq 10, 3) := by decide +kernel
theorem dX4_readParameters_46 : decode cX4_readParameters 46 = .ok (.aload_n 1, 1) := by decide +kernel
theorem dX4_readParameters_47 : decode cX4_readParameters 47 = .ok (.bipush 21, 2) := by decide +kernel
theorem dX4_readParameters_49 : decode cX4_readParameters 49 = .ok (.iaload, 1) := by decide +kernel
theorem dX4_readParameters_50 : decode cX4_readParameters 50 = .ok (.goto 4, 3) := by decide +kernel
theorem dX4_readParameters_53 : decode cX4_readParameters 53 = .ok (.iconst 0, 1) := by decide +kernel
theorem dX4_readParameters_54 : decode cX4_readParameters 54 = .ok (.putfield 85, 3) := by decide +kernel
theorem dX4_readParameters_57 : decode cX4_readParameters 57 = .ok (.iconst 0, 1) := by decide +kernel
theorem dX4_readParameters_58 : decode cX4_readParameters 58 = .ok (.istore_n 2, 1) := by decide +kernel
theorem dX4_readParameters_59 : decode cX4_readParameters 59 = .ok (.iload_n 2, 1) := by decide +kernel
theorem dX4_readParameters_60 : decode cX4_readParameters 60 = .ok (.iconst 5, 1) := by decide +kernel
theorem dX4_readParameters_61 : decode cX4_readParameters 61 = .ok (.if_icmp .ge 38, 3) := by decide +kernel
theorem dX4_readParameters_64 : decode cX4_readParameters 64 = .ok (.aload_n 0, 1) := by decide +kernel
theorem dX4_readParameters_65 : decode cX4_readParameters 65 = .ok (.getfield 25, 3) := by decide +kernel
theorem dX4_readParameters_68 : decode cX4_readParameters 68 = .ok (.iload_n 2, 1) := by decide +kernel
theorem dX4_readParameters_69 : decode cX4_readParameters 69 = .ok (.aload_n 1, 1) := by decide +kernel
theorem dX4_readParameters_70 : decode cX4_readParameters 70 = .ok (.bipush 10, 2) := by decide +kernel
theorem dX4_readParameters_72 : decode cX4_readParameters 72 = .ok (.iload_n 2, 1) := by decide +kernel
theorem dX4_readParameters_73 : decode cX4_readParameters 73 = .ok (.iadd, 1) := by decide +kernel
theorem dX4_readParameters_74 : decode cX4_readParameters 74 = .ok (.iaload, 1) := by decide +kernel
theorem dX4_readParameters_75 : decode cX4_readParameters 75 = .ok (.i2l, 1) := by decide +kernel
theorem dX4_readParameters_76 : decode cX4_readParameters 76 = .ok (.ldc2_w 80, 3) := by decide +kernel
theorem dX4_readParameters_79 : decode cX4_readParameters 79 = .ok (.lmul, 1) := by decide +kernel
theorem dX4_readParameters_80 : decode cX4_readParameters 80 = .ok (.lastore, 1) := by decide +kernel
theorem dX4_readParameters_81 : decode cX4_readParameters 81 = .ok (.aload_n 0, 1) := by decide +kernel
theorem dX4_readParameters_82 : decode cX4_readParameters 82 = .ok (.getfield 28, 3) := by decide +kernel
theorem dX4_readParameters_85 : decode cX4_readParameters 85 = .ok (.iload_n 2, 1) := by decide +kernel
theorem dX4_readParameters_86 : decode cX4_readParameters 86 = .ok (.aload_n 1, 1) := by decide +kernel
theorem dX4_readParameters_87 : decode cX4_readParameters 87 = .ok (.bipush 15, 2) := by decide +kernel
theorem dX4_readParameters_89 : decode cX4_readParameters 89 = .ok (.iload_n 2, 1) := by decide +kernel
theorem dX4_readParameters_90 : decode cX4_readParameters 90 = .ok (.iadd, 1) := by decide +kernel
theorem dX4_readParameters_91 : decode cX4_readParameters 91 = .ok (.iaload, 1) := by decide +kernel
theorem dX4_readParameters_92 : decode cX4_readParameters 92 = .ok (.iastore, 1) := by decide +kernel
theorem dX4_readParameters_93 : decode cX4_readParameters 93 = .ok (.iinc 2 1, 3) := by decide +kernel
theorem dX4_readParameters_96 : decode cX4_readParameters 96 = .ok (.goto (-37), 3) := by decide +kernel
theorem dX4_readParameters_99 : decode cX4_readParameters 99 = .ok (.return_, 1) := by decide +kernel
theorem dX4_solveAfters_0 : decode cX4_solveAfters 0 = .ok (.iconst 0, 1) := by decide +kernel
theorem dX4_solveAfters_1 : decode cX4_solveAfters 1 = .ok (.istore_n 3, 1) := by decide +kernel
theorem dX4_solveAfters_2 : decode cX4_solveAfters 2 = .ok (.iload_n 3, 1) := by decide +kernel
theorem dX4_solveAfters_3 : decode cX4_solveAfters 3 = .ok (.bipush 6, 2) := by decide +kernel
theorem dX4_solveAfters_5 : decode cX4_solveAfters 5 = .ok (.if_icmp .ge 55, 3) := by decide +kernel
theorem dX4_solveAfters_8 : decode cX4_solveAfters 8 = .ok (.lconst 0, 1) := by decide +kernel
theorem dX4_solveAfters_9 : decode cX4_solveAfters 9 = .ok (.lstore 4, 2) := by decide +kernel
theorem dX4_solveAfters_11 : decode cX4_solveAfters 11 = .ok (.iload_n 2, 1) := by decide +kernel
theorem dX4_solveAfters_12 : decode cX4_solveAfters 12 = .ok (.ifCond .le 29, 3) := by decide +kernel
theorem dX4_solveAfters_15 : decode cX4_solveAfters 15 = .ok (.iload_n 1, 1) := by decide +kernel
theorem dX4_solveAfters_16 : decode cX4_solveAfters 16 = .ok (.aload_n 0, 1) := by decide +kernel
theorem dX4_solveAfters_17 : decode cX4_solveAfters 17 = .ok (.getfield 58, 3) := by decide +kernel
theorem dX4_solveAfters_20 : decode cX4_solveAfters 20 = .ok (.if_icmp .gt 21, 3) := by decide +kernel
theorem dX4_solveAfters_23 : decode cX4_solveAfters 23 = .ok (.lconst 0, 1) := by decide +kernel
theorem dX4_solveAfters_24 : decode cX4_solveAfters 24 = .ok (.aload_n 0, 1) := by decide +kernel
theorem dX4_solveAfters_25 : decode cX4_solveAfters 25 = .ok (.iload_n 1, 1) := by decide +kernel
theorem dX4_solveAfters_26 : decode cX4_solveAfters 26 = .ok (.iload_n 2, 1) := by decide +kernel
theorem dX4_solveAfters_27 : decode cX4_solveAfters 27 = .ok (.iload_n 3, 1) := by decide +kernel
theorem dX4_solveAfters_28 : decode cX4_solveAfters 28 = .ok (.invokevirtual 88, 3) := by decide +kernel
theorem dX4_solveAfters_31 : decode cX4_solveAfters 31 = .ok (.aload_n 0, 1) := by decide +kernel
theorem dX4_solveAfters_32 : decode cX4_solveAfters 32 = .ok (.getfield 76, 3) := by decide +kernel
theorem dX4_solveAfters_35 : decode cX4_solveAfters 35 = .ok (.lsub, 1) := by decide +kernel
theorem dX4_solveAfters_36 : decode cX4_solveAfters 36 = .ok (.invokestatic 91, 3) := by decide +kernel
theorem dX4_solveAfters_39 : decode cX4_solveAfters 39 = .ok (.lstore 4, 2) := by decide +kernel
theorem dX4_solveAfters_41 : decode cX4_solveAfters 41 = .ok (.aload_n 0, 1) := by decide +kernel
theorem dX4_solveAfters_42 : decode cX4_solveAfters 42 = .ok (.getfield 19, 3) := by decide +kernel
theorem dX4_solveAfters_45 : decode cX4_solveAfters 45 = .ok (.iload_n 1, 1) := by decide +kernel
theorem dX4_solveAfters_46 : decode cX4_solveAfters 46 = .ok (.iload_n 2, 1) := by decide +kernel
theorem dX4_solveAfters_47 : decode cX4_solveAfters 47 = .ok (.iload_n 3, 1) := by decide +kernel
theorem dX4_solveAfters_48 : decode cX4_solveAfters 48 = .ok (.invokestatic 36, 3) := by decide +kernel
theorem dX4_solveAfters_51 : decode cX4_solveAfters 51 = .ok (.lload 4, 2) := by decide +kernel
theorem dX4_solveAfters_53 : decode cX4_solveAfters 53 = .ok (.lastore, 1) := by decide +kernel
theorem dX4_solveAfters_54 : decode cX4_solveAfters 54 = .ok (.iinc 3 1, 3) := by decide +kernel
theorem dX4_solveAfters_57 : decode cX4_solveAfters 57 = .ok (.goto (-55), 3) := by decide +kernel
theorem dX4_solveAfters_60 : decode cX4_solveAfters 60 = .ok (.return_, 1) := by decide +kernel
theorem dX4_solveBefores_0 : decode cX4_solveBefores 0 = .ok (.iconst 0, 1) := by decide +kernel
theorem dX4_solveBefores_1 : decode cX4_solveBefores 1 = .ok (.istore_n 3, 1) := by decide +kernel
theorem dX4_solveBefores_2 : decode cX4_solveBefores 2 = .ok (.iload_n 3, 1) := by decide +kernel
theorem dX4_solveBefores_3 : decode cX4_solveBefores 3 = .ok (.bipush 6, 2) := by decide +kernel
theorem dX4_solveBefores_5 : decode cX4_solveBefores 5 = .ok (.if_icmp .ge 102, 3) := by decide +kernel
theorem dX4_solveBefores_8 : decode cX4_solveBefores 8 = .ok (.iconst 0, 1) := by decide +kernel
theorem dX4_solveBefores_9 : decode cX4_solveBefores 9 = .ok (.istore 4, 2) := by decide +kernel
theorem dX4_solveBefores_11 : decode cX4_solveBefores 11 = .ok (.iload 4, 2) := by decide +kernel
theorem dX4_solveBefores_13 : decode cX4_solveBefores 13 = .ok (.bipush 6, 2) := by decide +kernel
theorem dX4_solveBefores_15 : decode cX4_solveBefores 15 = .ok (.if_icmp .ge 86, 3) := by decide +kernel
theorem dX4_solveBefores_18 : decode cX4_solveBefores 18 = .ok (.aload_n 0, 1) := by decide +kernel
theorem dX4_solveBefores_19 : decode cX4_solveBefores 19 = .ok (.getfield 19, 3) := by decide +kernel
theorem dX4_solveBefores_22 : decode cX4_solveBefores 22 = .ok (.iload_n 1, 1) := by decide +kernel
theorem dX4_solveBefores_23 : decode cX4_solveBefores 23 = .ok (.iload_n 2, 1) := by decide +kernel
theorem dX4_solveBefores_24 : decode cX4_solveBefores 24 = .ok (.iload_n 3, 1) := by decide +kernel
theorem dX4_solveBefores_25 : decode cX4_solveBefores 25 = .ok (.invokestatic 36, 3) := by decide +kernel
theorem dX4_solveBefores_28 : decode cX4_solveBefores 28 = .ok (.laload, 1) := by decide +kernel
theorem dX4_solveBefores_29 : decode cX4_solveBefores 29 = .ok (.lstore 5, 2) := by decide +kernel
theorem dX4_solveBefores_31 : decode cX4_solveBefores 31 = .ok (.iload_n 2, 1) := by decide +kernel
theorem dX4_solveBefores_32 : decode cX4_solveBefores 32 = .ok (.ifCond .le 22, 3) := by decide +kernel
theorem dX4_solveBefores_35 : decode cX4_solveBefores 35 = .ok (.iload_n 3, 1) := by decide +kernel
theorem dX4_solveBefores_36 : decode cX4_solveBefores 36 = .ok (.iconst 5, 1) := by decide +kernel
theorem dX4_solveBefores_37 : decode cX4_solveBefores 37 = .ok (.if_icmp .eq 17, 3) := by decide +kernel
theorem dX4_solveBefores_40 : decode cX4_solveBefores 40 = .ok (.lload 5, 2) := by decide +kernel
theorem dX4_solveBefores_42 : decode cX4_solveBefores 42 = .ok (.aload_n 0, 1) := by decide +kernel
theorem dX4_solveBefores_43 : decode cX4_solveBefores 43 = .ok (.iload_n 1, 1) := by decide +kernel
theorem dX4_solveBefores_44 : decode cX4_solveBefores 44 = .ok (.iload_n 2, 1) := by decide +kernel
theorem dX4_solveBefores_45 : decode cX4_solveBefores 45 = .ok (.iload_n 3, 1) := by decide +kernel
theorem dX4_solveBefores_46 : decode cX4_solveBefores 46 = .ok (.invokevirtual 44, 3) := by decide +kernel
theorem dX4_solveBefores_49 : decode cX4_solveBefores 49 = .ok (.invokestatic 91, 3) := by decide +kernel
theorem dX4_solveBefores_52 : decode cX4_solveBefores 52 = .ok (.lstore 5, 2) := by decide +kernel
theorem dX4_solveBefores_54 : decode cX4_solveBefores 54 = .ok (.iload_n 2, 1) := by decide +kernel
theorem dX4_solveBefores_55 : decode cX4_solveBefores 55 = .ok (.ifCond .le 25, 3) := by decide +kernel
theorem dX4_solveBefores_58 : decode cX4_solveBefores 58 = .ok (.iload 4, 2) := by decide +kernel
theorem dX4_solveBefores_60 : decode cX4_solveBefores 60 = .ok (.iconst 5, 1) := by decide +kernel
theorem dX4_solveBefores_61 : decode cX4_solveBefores 61 = .ok (.if_icmp .eq 19, 3) := by decide +kernel
theorem dX4_solveBefores_64 : decode cX4_solveBefores 64 = .ok (.lload 5, 2) := by decide +kernel
theorem dX4_solveBefores_66 : decode cX4_solveBefores 66 = .ok (.aload_n 0, 1) := by decide +kernel
theorem dX4_solveBefores_67 : decode cX4_solveBefores 67 = .ok (.iload_n 1, 1) := by decide +kernel
theorem dX4_solveBefores_68 : decode cX4_solveBefores 68 = .ok (.iload_n 2, 1) := by decide +kernel
theorem dX4_solveBefores_69 : decode cX4_solveBefores 69 = .ok (.iload_n 3, 1) := by decide +kernel
theorem dX4_solveBefores_70 : decode cX4_solveBefores 70 = .ok (.iload 4, 2) := by decide +kernel
theorem dX4_solveBefores_72 : decode cX4_solveBefores 72 = .ok (.invokevirtual 47, 3) := by decide +kernel
theorem dX4_solveBefores_75 : decode cX4_solveBefores 75 = .ok (.invokestatic 91, 3) := by decide +kernel
theorem dX4_solveBefores_78 : decode cX4_solveBefores 78 = .ok (.lstore 5, 2) := by decide +kernel
theorem dX4_solveBefores_80 : decode cX4_solveBefores 80 = .ok (.aload_n 0, 1) := by decide +kernel
theorem dX4_solveBefores_81 : decode cX4_solveBefores 81 = .ok (.getfield 15, 3) := by decide +kernel
theorem dX4_solveBefores_84 : decode cX4_solveBefores 84 = .ok (.iload_n 1, 1) := by decide +kernel
theorem dX4_solveBefores_85 : decode cX4_solveBefores 85 = .ok (.iload_n 2, 1) := by decide +kernel
theorem dX4_solveBefores_86 : decode cX4_solveBefores 86 = .ok (.iload_n 3, 1) := by decide +kernel
theorem dX4_solveBefores_87 : decode cX4_solveBefores 87 = .ok (.iload 4, 2) := by decide +kernel
theorem dX4_solveBefores_89 : decode cX4_solveBefores 89 = .ok (.invokestatic 32, 3) := by decide +kernel
theorem dX4_solveBefores_92 : decode cX4_solveBefores 92 = .ok (.lload 5, 2) := by decide +kernel
theorem dX4_solveBefores_94 : decode cX4_solveBefores 94 = .ok (.lastore, 1) := by decide +kernel
theorem dX4_solveBefores_95 : decode cX4_solveBefores 95 = .ok (.iinc 4 1, 3) := by decide +kernel
theorem dX4_solveBefores_98 : decode cX4_solveBefores 98 = .ok (.goto (-87), 3) := by decide +kernel
theorem dX4_solveBefores_101 : decode cX4_solveBefores 101 = .ok (.iinc 3 1, 3) := by decide +kernel
theorem dX4_solveBefores_104 : decode cX4_solveBefores 104 = .ok (.goto (-102), 3) := by decide +kernel
theorem dX4_solveBefores_107 : decode cX4_solveBefores 107 = .ok (.return_, 1) := by decide +kernel
theorem dX4_recallOfAge1_0 : decode cX4_recallOfAge1 0 = .ok (.aload_n 0, 1) := by decide +kernel
theorem dX4_recallOfAge1_1 : decode cX4_recallOfAge1 1 = .ok (.getfield 25, 3) := by decide +kernel
theorem dX4_recallOfAge1_4 : decode cX4_recallOfAge1 4 = .ok (.iload_n 3, 1) := by decide +kernel
theorem dX4_recallOfAge1_5 : decode cX4_recallOfAge1 5 = .ok (.laload, 1) := by decide +kernel
theorem dX4_recallOfAge1_6 : decode cX4_recallOfAge1 6 = .ok (.aload_n 0, 1) := by decide +kernel
theorem dX4_recallOfAge1_7 : decode cX4_recallOfAge1 7 = .ok (.getfield 19, 3) := by decide +kernel
theorem dX4_recallOfAge1_10 : decode cX4_recallOfAge1 10 = .ok (.iload_n 1, 1) := by decide +kernel
theorem dX4_recallOfAge1_11 : decode cX4_recallOfAge1 11 = .ok (.iload_n 2, 1) := by decide +kernel
theorem dX4_recallOfAge1_12 : decode cX4_recallOfAge1 12 = .ok (.iconst 1, 1) := by decide +kernel
theorem dX4_recallOfAge1_13 : decode cX4_recallOfAge1 13 = .ok (.isub, 1) := by decide +kernel
theorem dX4_recallOfAge1_14 : decode cX4_recallOfAge1 14 = .ok (.iconst 5, 1) := by decide +kernel
theorem dX4_recallOfAge1_15 : decode cX4_recallOfAge1 15 = .ok (.invokestatic 36, 3) := by decide +kernel
theorem dX4_recallOfAge1_18 : decode cX4_recallOfAge1 18 = .ok (.laload, 1) := by decide +kernel
theorem dX4_recallOfAge1_19 : decode cX4_recallOfAge1 19 = .ok (.ladd, 1) := by decide +kernel
theorem dX4_recallOfAge1_20 : decode cX4_recallOfAge1 20 = .ok (.lstore 4, 2) := by decide +kernel
theorem dX4_recallOfAge1_22 : decode cX4_recallOfAge1 22 = .ok (.aload_n 0, 1) := by decide +kernel
theorem dX4_recallOfAge1_23 : decode cX4_recallOfAge1 23 = .ok (.getfield 19, 3) := by decide +kernel
theorem dX4_recallOfAge1_26 : decode cX4_recallOfAge1 26 = .ok (.iload_n 1, 1) := by decide +kernel
theorem dX4_recallOfAge1_27 : decode cX4_recallOfAge1 27 = .ok (.iload_n 2, 1) := by decide +kernel
theorem dX4_recallOfAge1_28 : decode cX4_recallOfAge1 28 = .ok (.iconst 5, 1) := by decide +kernel
theorem dX4_recallOfAge1_29 : decode cX4_recallOfAge1 29 = .ok (.invokestatic 36, 3) := by decide +kernel
theorem dX4_recallOfAge1_32 : decode cX4_recallOfAge1 32 = .ok (.laload, 1) := by decide +kernel
theorem dX4_recallOfAge1_33 : decode cX4_recallOfAge1 33 = .ok (.lstore 6, 2) := by decide +kernel
theorem dX4_recallOfAge1_35 : decode cX4_recallOfAge1 35 = .ok (.aload_n 0, 1) := by decide +kernel
theorem dX4_recallOfAge1_36 : decode cX4_recallOfAge1 36 = .ok (.getfield 82, 3) := by decide +kernel
theorem dX4_recallOfAge1_39 : decode cX4_recallOfAge1 39 = .ok (.i2l, 1) := by decide +kernel
theorem dX4_recallOfAge1_40 : decode cX4_recallOfAge1 40 = .ok (.lload 4, 2) := by decide +kernel
theorem dX4_recallOfAge1_42 : decode cX4_recallOfAge1 42 = .ok (.lmul, 1) := by decide +kernel
theorem dX4_recallOfAge1_43 : decode cX4_recallOfAge1 43 = .ok (.bipush 10, 2) := by decide +kernel
theorem dX4_recallOfAge1_45 : decode cX4_recallOfAge1 45 = .ok (.aload_n 0, 1) := by decide +kernel
theorem dX4_recallOfAge1_46 : decode cX4_recallOfAge1 46 = .ok (.getfield 82, 3) := by decide +kernel
theorem dX4_recallOfAge1_49 : decode cX4_recallOfAge1 49 = .ok (.isub, 1) := by decide +kernel
theorem dX4_recallOfAge1_50 : decode cX4_recallOfAge1 50 = .ok (.i2l, 1) := by decide +kernel
theorem dX4_recallOfAge1_51 : decode cX4_recallOfAge1 51 = .ok (.lload 6, 2) := by decide +kernel
theorem dX4_recallOfAge1_53 : decode cX4_recallOfAge1 53 = .ok (.lmul, 1) := by decide +kernel
theorem dX4_recallOfAge1_54 : decode cX4_recallOfAge1 54 = .ok (.ladd, 1) := by decide +kernel
theorem dX4_recallOfAge1_55 : decode cX4_recallOfAge1 55 = .ok (.ldc2_w 97, 3) := by decide +kernel
theorem dX4_recallOfAge1_58 : decode cX4_recallOfAge1 58 = .ok (.ldiv, 1) := by decide +kernel
theorem dX4_recallOfAge1_59 : decode cX4_recallOfAge1 59 = .ok (.lreturn, 1) := by decide +kernel
theorem dX4_recallOfAge2_0 : decode cX4_recallOfAge2 0 = .ok (.aload_n 0, 1) := by decide +kernel
theorem dX4_recallOfAge2_1 : decode cX4_recallOfAge2 1 = .ok (.getfield 25, 3) := by decide +kernel
theorem dX4_recallOfAge2_4 : decode cX4_recallOfAge2 4 = .ok (.iload 4, 2) := by decide +kernel
theorem dX4_recallOfAge2_6 : decode cX4_recallOfAge2 6 = .ok (.laload, 1) := by decide +kernel
theorem dX4_recallOfAge2_7 : decode cX4_recallOfAge2 7 = .ok (.aload_n 0, 1) := by decide +kernel
theorem dX4_recallOfAge2_8 : decode cX4_recallOfAge2 8 = .ok (.getfield 19, 3) := by decide +kernel
theorem dX4_recallOfAge2_11 : decode cX4_recallOfAge2 11 = .ok (.iload_n 1, 1) := by decide +kernel
theorem dX4_recallOfAge2_12 : decode cX4_recallOfAge2 12 = .ok (.iload_n 2, 1) := by decide +kernel
theorem dX4_recallOfAge2_13 : decode cX4_recallOfAge2 13 = .ok (.iconst 1, 1) := by decide +kernel
theorem dX4_recallOfAge2_14 : decode cX4_recallOfAge2 14 = .ok (.isub, 1) := by decide +kernel
theorem dX4_recallOfAge2_15 : decode cX4_recallOfAge2 15 = .ok (.iload_n 3, 1) := by decide +kernel
theorem dX4_recallOfAge2_16 : decode cX4_recallOfAge2 16 = .ok (.invokestatic 36, 3) := by decide +kernel
theorem dX4_recallOfAge2_19 : decode cX4_recallOfAge2 19 = .ok (.laload, 1) := by decide +kernel
theorem dX4_recallOfAge2_20 : decode cX4_recallOfAge2 20 = .ok (.ladd, 1) := by decide +kernel
theorem dX4_recallOfAge2_21 : decode cX4_recallOfAge2 21 = .ok (.lstore 5, 2) := by decide +kernel
theorem dX4_recallOfAge2_23 : decode cX4_recallOfAge2 23 = .ok (.aload_n 0, 1) := by decide +kernel
theorem dX4_recallOfAge2_24 : decode cX4_recallOfAge2 24 = .ok (.getfield 19, 3) := by decide +kernel
theorem dX4_recallOfAge2_27 : decode cX4_recallOfAge2 27 = .ok (.iload_n 1, 1) := by decide +kernel
theorem dX4_recallOfAge2_28 : decode cX4_recallOfAge2 28 = .ok (.iload_n 2, 1) := by decide +kernel
theorem dX4_recallOfAge2_29 : decode cX4_recallOfAge2 29 = .ok (.iload_n 3, 1) := by decide +kernel
theorem dX4_recallOfAge2_30 : decode cX4_recallOfAge2 30 = .ok (.invokestatic 36, 3) := by decide +kernel
theorem dX4_recallOfAge2_33 : decode cX4_recallOfAge2 33 = .ok (.laload, 1) := by decide +kernel
theorem dX4_recallOfAge2_34 : decode cX4_recallOfAge2 34 = .ok (.lstore 7, 2) := by decide +kernel
theorem dX4_recallOfAge2_36 : decode cX4_recallOfAge2 36 = .ok (.aload_n 0, 1) := by decide +kernel
theorem dX4_recallOfAge2_37 : decode cX4_recallOfAge2 37 = .ok (.getfield 85, 3) := by decide +kernel
theorem dX4_recallOfAge2_40 : decode cX4_recallOfAge2 40 = .ok (.i2l, 1) := by decide +kernel
theorem dX4_recallOfAge2_41 : decode cX4_recallOfAge2 41 = .ok (.lload 5, 2) := by decide +kernel
theorem dX4_recallOfAge2_43 : decode cX4_recallOfAge2 43 = .ok (.lmul, 1) := by decide +kernel
theorem dX4_recallOfAge2_44 : decode cX4_recallOfAge2 44 = .ok (.bipush 10, 2) := by decide +kernel
theorem dX4_recallOfAge2_46 : decode cX4_recallOfAge2 46 = .ok (.aload_n 0, 1) := by decide +kernel
theorem dX4_recallOfAge2_47 : decode cX4_recallOfAge2 47 = .ok (.getfield 85, 3) := by decide +kernel
theorem dX4_recallOfAge2_50 : decode cX4_recallOfAge2 50 = .ok (.isub, 1) := by decide +kernel
theorem dX4_recallOfAge2_51 : decode cX4_recallOfAge2 51 = .ok (.i2l, 1) := by decide +kernel
theorem dX4_recallOfAge2_52 : decode cX4_recallOfAge2 52 = .ok (.lload 7, 2) := by decide +kernel
theorem dX4_recallOfAge2_54 : decode cX4_recallOfAge2 54 = .ok (.lmul, 1) := by decide +kernel
theorem dX4_recallOfAge2_55 : decode cX4_recallOfAge2 55 = .ok (.ladd, 1) := by decide +kernel
theorem dX4_recallOfAge2_56 : decode cX4_recallOfAge2 56 = .ok (.ldc2_w 97, 3) := by decide +kernel
theorem dX4_recallOfAge2_59 : decode cX4_recallOfAge2 59 = .ok (.ldiv, 1) := by decide +kernel
theorem dX4_recallOfAge2_60 : decode cX4_recallOfAge2 60 = .ok (.lreturn, 1) := by decide +kernel
theorem dX4_meanOfBest_0 : decode cX4_meanOfBest 0 = .ok (.lconst 0, 1) := by decide +kernel
theorem dX4_meanOfBest_1 : decode cX4_meanOfBest 1 = .ok (.lstore 4, 2) := by decide +kernel
theorem dX4_meanOfBest_3 : decode cX4_meanOfBest 3 = .ok (.aload_n 0, 1) := by decide +kernel
theorem dX4_meanOfBest_4 : decode cX4_meanOfBest 4 = .ok (.getfield 15, 3) := by decide +kernel
theorem dX4_meanOfBest_7 : decode cX4_meanOfBest 7 = .ok (.iload_n 1, 1) := by decide +kernel
theorem dX4_meanOfBest_8 : decode cX4_meanOfBest 8 = .ok (.iconst 1, 1) := by decide +kernel
theorem dX4_meanOfBest_9 : decode cX4_meanOfBest 9 = .ok (.iadd, 1) := by decide +kernel
theorem dX4_meanOfBest_10 : decode cX4_meanOfBest 10 = .ok (.iload_n 2, 1) := by decide +kernel
theorem dX4_meanOfBest_11 : decode cX4_meanOfBest 11 = .ok (.iconst 1, 1) := by decide +kernel
theorem dX4_meanOfBest_12 : decode cX4_meanOfBest 12 = .ok (.isub, 1) := by decide +kernel
theorem dX4_meanOfBest_13 : decode cX4_meanOfBest 13 = .ok (.iconst 5, 1) := by decide +kernel
theorem dX4_meanOfBest_14 : decode cX4_meanOfBest 14 = .ok (.iload_n 3, 1) := by decide +kernel
theorem dX4_meanOfBest_15 : decode cX4_meanOfBest 15 = .ok (.invokestatic 32, 3) := by decide +kernel
theorem dX4_meanOfBest_18 : decode cX4_meanOfBest 18 = .ok (.laload, 1) := by decide +kernel
theorem dX4_meanOfBest_19 : decode cX4_meanOfBest 19 = .ok (.lstore 6, 2) := by decide +kernel
theorem dX4_meanOfBest_21 : decode cX4_meanOfBest 21 = .ok (.iconst 0, 1) := by decide +kernel
theorem dX4_meanOfBest_22 : decode cX4_meanOfBest 22 = .ok (.istore 8, 2) := by decide +kernel
theorem dX4_meanOfBest_24 : decode cX4_meanOfBest 24 = .ok (.iload 8, 2) := by decide +kernel
theorem dX4_meanOfBest_26 : decode cX4_meanOfBest 26 = .ok (.iconst 5, 1) := by decide +kernel
theorem dX4_meanOfBest_27 : decode cX4_meanOfBest 27 = .ok (.if_icmp .ge 55, 3) := by decide +kernel
theorem dX4_meanOfBest_30 : decode cX4_meanOfBest 30 = .ok (.aload_n 0, 1) := by decide +kernel
theorem dX4_meanOfBest_31 : decode cX4_meanOfBest 31 = .ok (.getfield 15, 3) := by decide +kernel
theorem dX4_meanOfBest_34 : decode cX4_meanOfBest 34 = .ok (.iload_n 1, 1) := by decide +kernel
theorem dX4_meanOfBest_35 : decode cX4_meanOfBest 35 = .ok (.iconst 1, 1) := by decide +kernel
theorem dX4_meanOfBest_36 : decode cX4_meanOfBest 36 = .ok (.iadd, 1) := by decide +kernel
theorem dX4_meanOfBest_37 : decode cX4_meanOfBest 37 = .ok (.iload_n 2, 1) := by decide +kernel
theorem dX4_meanOfBest_38 : decode cX4_meanOfBest 38 = .ok (.iload 8, 2) := by decide +kernel
theorem dX4_meanOfBest_40 : decode cX4_meanOfBest 40 = .ok (.iload_n 3, 1) := by decide +kernel
theorem dX4_meanOfBest_41 : decode cX4_meanOfBest 41 = .ok (.invokestatic 32, 3) := by decide +kernel
theorem dX4_meanOfBest_44 : decode cX4_meanOfBest 44 = .ok (.laload, 1) := by decide +kernel
theorem dX4_meanOfBest_45 : decode cX4_meanOfBest 45 = .ok (.lstore 9, 2) := by decide +kernel
theorem dX4_meanOfBest_47 : decode cX4_meanOfBest 47 = .ok (.lload 4, 2) := by decide +kernel
theorem dX4_meanOfBest_49 : decode cX4_meanOfBest 49 = .ok (.aload_n 0, 1) := by decide +kernel
theorem dX4_meanOfBest_50 : decode cX4_meanOfBest 50 = .ok (.getfield 28, 3) := by decide +kernel
theorem dX4_meanOfBest_53 : decode cX4_meanOfBest 53 = .ok (.iload 8, 2) := by decide +kernel
theorem dX4_meanOfBest_55 : decode cX4_meanOfBest 55 = .ok (.iaload, 1) := by decide +kernel
theorem dX4_meanOfBest_56 : decode cX4_meanOfBest 56 = .ok (.i2l, 1) := by decide +kernel
theorem dX4_meanOfBest_57 : decode cX4_meanOfBest 57 = .ok (.lload 9, 2) := by decide +kernel
theorem dX4_meanOfBest_59 : decode cX4_meanOfBest 59 = .ok (.aload_n 0, 1) := by decide +kernel
theorem dX4_meanOfBest_60 : decode cX4_meanOfBest 60 = .ok (.getfield 25, 3) := by decide +kernel
theorem dX4_meanOfBest_63 : decode cX4_meanOfBest 63 = .ok (.iload 8, 2) := by decide +kernel
theorem dX4_meanOfBest_65 : decode cX4_meanOfBest 65 = .ok (.laload, 1) := by decide +kernel
theorem dX4_meanOfBest_66 : decode cX4_meanOfBest 66 = .ok (.lload 6, 2) := by decide +kernel
theorem dX4_meanOfBest_68 : decode cX4_meanOfBest 68 = .ok (.ladd, 1) := by decide +kernel
theorem dX4_meanOfBest_69 : decode cX4_meanOfBest 69 = .ok (.invokestatic 91, 3) := by decide +kernel
theorem dX4_meanOfBest_72 : decode cX4_meanOfBest 72 = .ok (.lmul, 1) := by decide +kernel
theorem dX4_meanOfBest_73 : decode cX4_meanOfBest 73 = .ok (.ladd, 1) := by decide +kernel
theorem dX4_meanOfBest_74 : decode cX4_meanOfBest 74 = .ok (.lstore 4, 2) := by decide +kernel
theorem dX4_meanOfBest_76 : decode cX4_meanOfBest 76 = .ok (.iinc 8 1, 3) := by decide +kernel
theorem dX4_meanOfBest_79 : decode cX4_meanOfBest 79 = .ok (.goto (-55), 3) := by decide +kernel
theorem dX4_meanOfBest_82 : decode cX4_meanOfBest 82 = .ok (.lload 4, 2) := by decide +kernel
theorem dX4_meanOfBest_84 : decode cX4_meanOfBest 84 = .ok (.ldc2_w 97, 3) := by decide +kernel
theorem dX4_meanOfBest_87 : decode cX4_meanOfBest 87 = .ok (.ldiv, 1) := by decide +kernel
theorem dX4_meanOfBest_88 : decode cX4_meanOfBest 88 = .ok (.lreturn, 1) := by decide +kernel
theorem dX4_meanOfFixed_0 : decode cX4_meanOfFixed 0 = .ok (.aload_n 0, 1) := by decide +kernel
theorem dX4_meanOfFixed_1 : decode cX4_meanOfFixed 1 = .ok (.getfield 22, 3) := by decide +kernel
theorem dX4_meanOfFixed_4 : decode cX4_meanOfFixed 4 = .ok (.iload_n 2, 1) := by decide +kernel
theorem dX4_meanOfFixed_5 : decode cX4_meanOfFixed 5 = .ok (.iconst 1, 1) := by decide +kernel
theorem dX4_meanOfFixed_6 : decode cX4_meanOfFixed 6 = .ok (.iadd, 1) := by decide +kernel
theorem dX4_meanOfFixed_7 : decode cX4_meanOfFixed 7 = .ok (.iload_n 3, 1) := by decide +kernel
theorem dX4_meanOfFixed_8 : decode cX4_meanOfFixed 8 = .ok (.invokestatic 69, 3) := by decide +kernel
theorem dX4_meanOfFixed_11 : decode cX4_meanOfFixed 11 = .ok (.laload, 1) := by decide +kernel
theorem dX4_meanOfFixed_12 : decode cX4_meanOfFixed 12 = .ok (.lstore 4, 2) := by decide +kernel
theorem dX4_meanOfFixed_14 : decode cX4_meanOfFixed 14 = .ok (.aload_n 0, 1) := by decide +kernel
theorem dX4_meanOfFixed_15 : decode cX4_meanOfFixed 15 = .ok (.getfield 22, 3) := by decide +kernel
theorem dX4_meanOfFixed_18 : decode cX4_meanOfFixed 18 = .ok (.iload_n 2, 1) := by decide +kernel
theorem dX4_meanOfFixed_19 : decode cX4_meanOfFixed 19 = .ok (.iconst 1, 1) := by decide +kernel
theorem dX4_meanOfFixed_20 : decode cX4_meanOfFixed 20 = .ok (.iadd, 1) := by decide +kernel
theorem dX4_meanOfFixed_21 : decode cX4_meanOfFixed 21 = .ok (.iload_n 3, 1) := by decide +kernel
theorem dX4_meanOfFixed_22 : decode cX4_meanOfFixed 22 = .ok (.iconst 1, 1) := by decide +kernel
theorem dX4_meanOfFixed_23 : decode cX4_meanOfFixed 23 = .ok (.isub, 1) := by decide +kernel
theorem dX4_meanOfFixed_24 : decode cX4_meanOfFixed 24 = .ok (.invokestatic 69, 3) := by decide +kernel
theorem dX4_meanOfFixed_27 : decode cX4_meanOfFixed 27 = .ok (.laload, 1) := by decide +kernel
theorem dX4_meanOfFixed_28 : decode cX4_meanOfFixed 28 = .ok (.lstore 6, 2) := by decide +kernel
theorem dX4_meanOfFixed_30 : decode cX4_meanOfFixed 30 = .ok (.lconst 0, 1) := by decide +kernel
theorem dX4_meanOfFixed_31 : decode cX4_meanOfFixed 31 = .ok (.lstore 8, 2) := by decide +kernel
theorem dX4_meanOfFixed_33 : decode cX4_meanOfFixed 33 = .ok (.iconst 0, 1) := by decide +kernel
theorem dX4_meanOfFixed_34 : decode cX4_meanOfFixed 34 = .ok (.istore 10, 2) := by decide +kernel
theorem dX4_meanOfFixed_36 : decode cX4_meanOfFixed 36 = .ok (.iload 10, 2) := by decide +kernel
theorem dX4_meanOfFixed_38 : decode cX4_meanOfFixed 38 = .ok (.iconst 5, 1) := by decide +kernel
theorem dX4_meanOfFixed_39 : decode cX4_meanOfFixed 39 = .ok (.if_icmp .ge 67, 3) := by decide +kernel
theorem dX4_meanOfFixed_42 : decode cX4_meanOfFixed 42 = .ok (.aload_n 0, 1) := by decide +kernel
theorem dX4_meanOfFixed_43 : decode cX4_meanOfFixed 43 = .ok (.getfield 25, 3) := by decide +kernel
theorem dX4_meanOfFixed_46 : decode cX4_meanOfFixed 46 = .ok (.iload 10, 2) := by decide +kernel
theorem dX4_meanOfFixed_48 : decode cX4_meanOfFixed 48 = .ok (.laload, 1) := by decide +kernel
theorem dX4_meanOfFixed_49 : decode cX4_meanOfFixed 49 = .ok (.iload_n 1, 1) := by decide +kernel
theorem dX4_meanOfFixed_50 : decode cX4_meanOfFixed 50 = .ok (.i2l, 1) := by decide +kernel
theorem dX4_meanOfFixed_51 : decode cX4_meanOfFixed 51 = .ok (.ldc2_w 80, 3) := by decide +kernel
theorem dX4_meanOfFixed_54 : decode cX4_meanOfFixed 54 = .ok (.lmul, 1) := by decide +kernel
theorem dX4_meanOfFixed_55 : decode cX4_meanOfFixed 55 = .ok (.lcmp, 1) := by decide +kernel
theorem dX4_meanOfFixed_56 : decode cX4_meanOfFixed 56 = .ok (.ifCond .lt 7, 3) := by decide +kernel
theorem dX4_meanOfFixed_59 : decode cX4_meanOfFixed 59 = .ok (.iconst 1, 1) := by decide +kernel
theorem dX4_meanOfFixed_60 : decode cX4_meanOfFixed 60 = .ok (.goto 4, 3) := by decide +kernel
theorem dX4_meanOfFixed_63 : decode cX4_meanOfFixed 63 = .ok (.iconst 0, 1) := by decide +kernel
theorem dX4_meanOfFixed_64 : decode cX4_meanOfFixed 64 = .ok (.istore 11, 2) := by decide +kernel
theorem dX4_meanOfFixed_66 : decode cX4_meanOfFixed 66 = .ok (.lload 8, 2) := by decide +kernel
theorem dX4_meanOfFixed_68 : decode cX4_meanOfFixed 68 = .ok (.aload_n 0, 1) := by decide +kernel
theorem dX4_meanOfFixed_69 : decode cX4_meanOfFixed 69 = .ok (.getfield 28, 3) := by decide +kernel
theorem dX4_meanOfFixed_72 : decode cX4_meanOfFixed 72 = .ok (.iload 10, 2) := by decide +kernel
theorem dX4_meanOfFixed_74 : decode cX4_meanOfFixed 74 = .ok (.iaload, 1) := by decide +kernel
theorem dX4_meanOfFixed_75 : decode cX4_meanOfFixed 75 = .ok (.i2l, 1) := by decide +kernel
theorem dX4_meanOfFixed_76 : decode cX4_meanOfFixed 76 = .ok (.iload 11, 2) := by decide +kernel
theorem dX4_meanOfFixed_78 : decode cX4_meanOfFixed 78 = .ok (.ifCond .eq 16, 3) := by decide +kernel
theorem dX4_meanOfFixed_81 : decode cX4_meanOfFixed 81 = .ok (.aload_n 0, 1) := by decide +kernel
theorem dX4_meanOfFixed_82 : decode cX4_meanOfFixed 82 = .ok (.getfield 25, 3) := by decide +kernel
theorem dX4_meanOfFixed_85 : decode cX4_meanOfFixed 85 = .ok (.iload 10, 2) := by decide +kernel
theorem dX4_meanOfFixed_87 : decode cX4_meanOfFixed 87 = .ok (.laload, 1) := by decide +kernel
theorem dX4_meanOfFixed_88 : decode cX4_meanOfFixed 88 = .ok (.lload 6, 2) := by decide +kernel
theorem dX4_meanOfFixed_90 : decode cX4_meanOfFixed 90 = .ok (.ladd, 1) := by decide +kernel
theorem dX4_meanOfFixed_91 : decode cX4_meanOfFixed 91 = .ok (.goto 5, 3) := by decide +kernel
theorem dX4_meanOfFixed_94 : decode cX4_meanOfFixed 94 = .ok (.lload 4, 2) := by decide +kernel
theorem dX4_meanOfFixed_96 : decode cX4_meanOfFixed 96 = .ok (.lmul, 1) := by decide +kernel
theorem dX4_meanOfFixed_97 : decode cX4_meanOfFixed 97 = .ok (.ladd, 1) := by decide +kernel
theorem dX4_meanOfFixed_98 : decode cX4_meanOfFixed 98 = .ok (.lstore 8, 2) := by decide +kernel
theorem dX4_meanOfFixed_100 : decode cX4_meanOfFixed 100 = .ok (.iinc 10 1, 3) := by decide +kernel
theorem dX4_meanOfFixed_103 : decode cX4_meanOfFixed 103 = .ok (.goto (-67), 3) := by decide +kernel
theorem dX4_meanOfFixed_106 : decode cX4_meanOfFixed 106 = .ok (.lload 8, 2) := by decide +kernel
theorem dX4_meanOfFixed_108 : decode cX4_meanOfFixed 108 = .ok (.ldc2_w 97, 3) := by decide +kernel
theorem dX4_meanOfFixed_111 : decode cX4_meanOfFixed 111 = .ok (.ldiv, 1) := by decide +kernel
theorem dX4_meanOfFixed_112 : decode cX4_meanOfFixed 112 = .ok (.lreturn, 1) := by decide +kernel
