theorem dX6_init_0 : decode cX6_init 0 = .ok (.aload_n 0, 1) := by decide +kernel
theorem dX6_init_1 : decode cX6_init 1 = .ok (.invokespecial 1, 3) := by decide +kernel
theorem dX6_init_4 : decode cX6_init 4 = .ok (.aload_n 0, 1) := by decide +kernel
theorem dX6_init_5 : decode cX6_init 5 = .ok (.bipush 22, 2) := by decide +kernel
theorem dX6_init_7 : decode cX6_init 7 = .ok (.newarray .int, 2) := by decide +kernel
theorem dX6_init_9 : decode cX6_init 9 = .ok (.putfield 7, 3) := by decide +kernel
theorem dX6_init_12 : decode cX6_init 12 = .ok (.aload_n 0, 1) := by decide +kernel
theorem dX6_init_13 : decode cX6_init 13 = .ok (.sipush 176, 3) := by decide +kernel
theorem dX6_init_16 : decode cX6_init 16 = .ok (.newarray .int, 2) := by decide +kernel
theorem dX6_init_18 : decode cX6_init 18 = .ok (.putfield 13, 3) := by decide +kernel
theorem dX6_init_21 : decode cX6_init 21 = .ok (.aload_n 0, 1) := by decide +kernel
theorem dX6_init_22 : decode cX6_init 22 = .ok (.lconst 1, 1) := by decide +kernel
theorem dX6_init_23 : decode cX6_init 23 = .ok (.putfield 16, 3) := by decide +kernel
theorem dX6_init_26 : decode cX6_init 26 = .ok (.aload_n 0, 1) := by decide +kernel
theorem dX6_init_27 : decode cX6_init 27 = .ok (.bipush 60, 2) := by decide +kernel
theorem dX6_init_29 : decode cX6_init 29 = .ok (.newarray .int, 2) := by decide +kernel
theorem dX6_init_31 : decode cX6_init 31 = .ok (.putfield 20, 3) := by decide +kernel
theorem dX6_init_34 : decode cX6_init 34 = .ok (.aload_n 0, 1) := by decide +kernel
theorem dX6_init_35 : decode cX6_init 35 = .ok (.bipush 22, 2) := by decide +kernel
theorem dX6_init_37 : decode cX6_init 37 = .ok (.newarray .int, 2) := by decide +kernel
theorem dX6_init_39 : decode cX6_init 39 = .ok (.putfield 23, 3) := by decide +kernel
theorem dX6_init_42 : decode cX6_init 42 = .ok (.aload_n 0, 1) := by decide +kernel
theorem dX6_init_43 : decode cX6_init 43 = .ok (.bipush 72, 2) := by decide +kernel
theorem dX6_init_45 : decode cX6_init 45 = .ok (.newarray .long, 2) := by decide +kernel
theorem dX6_init_47 : decode cX6_init 47 = .ok (.putfield 26, 3) := by decide +kernel
theorem dX6_init_50 : decode cX6_init 50 = .ok (.aload_n 0, 1) := by decide +kernel
theorem dX6_init_51 : decode cX6_init 51 = .ok (.bipush 40, 2) := by decide +kernel
theorem dX6_init_53 : decode cX6_init 53 = .ok (.newarray .long, 2) := by decide +kernel
theorem dX6_init_55 : decode cX6_init 55 = .ok (.putfield 30, 3) := by decide +kernel
theorem dX6_init_58 : decode cX6_init 58 = .ok (.aload_n 0, 1) := by decide +kernel
theorem dX6_init_59 : decode cX6_init 59 = .ok (.sipush 1152, 3) := by decide +kernel
theorem dX6_init_62 : decode cX6_init 62 = .ok (.newarray .long, 2) := by decide +kernel
theorem dX6_init_64 : decode cX6_init 64 = .ok (.putfield 33, 3) := by decide +kernel
theorem dX6_init_67 : decode cX6_init 67 = .ok (.aload_n 0, 1) := by decide +kernel
theorem dX6_init_68 : decode cX6_init 68 = .ok (.sipush 1152, 3) := by decide +kernel
theorem dX6_init_71 : decode cX6_init 71 = .ok (.newarray .long, 2) := by decide +kernel
theorem dX6_init_73 : decode cX6_init 73 = .ok (.putfield 36, 3) := by decide +kernel
theorem dX6_init_76 : decode cX6_init 76 = .ok (.aload_n 0, 1) := by decide +kernel
theorem dX6_init_77 : decode cX6_init 77 = .ok (.bipush 40, 2) := by decide +kernel
theorem dX6_init_79 : decode cX6_init 79 = .ok (.newarray .long, 2) := by decide +kernel
theorem dX6_init_81 : decode cX6_init 81 = .ok (.putfield 39, 3) := by decide +kernel
theorem dX6_init_84 : decode cX6_init 84 = .ok (.aload_n 0, 1) := by decide +kernel
theorem dX6_init_85 : decode cX6_init 85 = .ok (.bipush 8, 2) := by decide +kernel
theorem dX6_init_87 : decode cX6_init 87 = .ok (.newarray .int, 2) := by decide +kernel
theorem dX6_init_89 : decode cX6_init 89 = .ok (.putfield 42, 3) := by decide +kernel
theorem dX6_init_92 : decode cX6_init 92 = .ok (.aload_n 0, 1) := by decide +kernel
theorem dX6_init_93 : decode cX6_init 93 = .ok (.bipush 8, 2) := by decide +kernel
theorem dX6_init_95 : decode cX6_init 95 = .ok (.newarray .int, 2) := by decide +kernel
theorem dX6_init_97 : decode cX6_init 97 = .ok (.putfield 45, 3) := by decide +kernel
theorem dX6_init_100 : decode cX6_init 100 = .ok (.aload_n 0, 1) := by decide +kernel
theorem dX6_init_101 : decode cX6_init 101 = .ok (.iconst 5, 1) := by decide +kernel
theorem dX6_init_102 : decode cX6_init 102 = .ok (.newarray .int, 2) := by decide +kernel
theorem dX6_init_104 : decode cX6_init 104 = .ok (.putfield 48, 3) := by decide +kernel
theorem dX6_init_107 : decode cX6_init 107 = .ok (.aload_n 0, 1) := by decide +kernel
theorem dX6_init_108 : decode cX6_init 108 = .ok (.getfield 7, 3) := by decide +kernel
theorem dX6_init_111 : decode cX6_init 111 = .ok (.iconst 0, 1) := by decide +kernel
theorem dX6_init_112 : decode cX6_init 112 = .ok (.iconst 5, 1) := by decide +kernel
theorem dX6_init_113 : decode cX6_init 113 = .ok (.iastore, 1) := by decide +kernel
theorem dX6_init_114 : decode cX6_init 114 = .ok (.aload_n 0, 1) := by decide +kernel
theorem dX6_init_115 : decode cX6_init 115 = .ok (.getfield 7, 3) := by decide +kernel
theorem dX6_init_118 : decode cX6_init 118 = .ok (.iconst 1, 1) := by decide +kernel
theorem dX6_init_119 : decode cX6_init 119 = .ok (.iconst 1, 1) := by decide +kernel
theorem dX6_init_120 : decode cX6_init 120 = .ok (.iastore, 1) := by decide +kernel
theorem dX6_init_121 : decode cX6_init 121 = .ok (.aload_n 0, 1) := by decide +kernel
theorem dX6_init_122 : decode cX6_init 122 = .ok (.getfield 7, 3) := by decide +kernel
theorem dX6_init_125 : decode cX6_init 125 = .ok (.iconst 3, 1) := by decide +kernel
theorem dX6_init_126 : decode cX6_init 126 = .ok (.bipush 99, 2) := by decide +kernel
theorem dX6_init_128 : decode cX6_init 128 = .ok (.iastore, 1) := by decide +kernel
theorem dX6_init_129 : decode cX6_init 129 = .ok (.iconst 0, 1) := by decide +kernel
theorem dX6_init_130 : decode cX6_init 130 = .ok (.istore_n 1, 1) := by decide +kernel
theorem dX6_init_131 : decode cX6_init 131 = .ok (.iload_n 1, 1) := by decide +kernel
theorem dX6_init_132 : decode cX6_init 132 = .ok (.iconst 5, 1) := by decide +kernel
theorem dX6_init_133 : decode cX6_init 133 = .ok (.if_icmp .ge 32, 3) := by decide +kernel
theorem dX6_init_136 : decode cX6_init 136 = .ok (.aload_n 0, 1) := by decide +kernel
theorem dX6_init_137 : decode cX6_init 137 = .ok (.getfield 7, 3) := by decide +kernel
theorem dX6_init_140 : decode cX6_init 140 = .ok (.bipush 10, 2) := by decide +kernel
theorem dX6_init_142 : decode cX6_init 142 = .ok (.iload_n 1, 1) := by decide +kernel
theorem dX6_init_143 : decode cX6_init 143 = .ok (.iadd, 1) := by decide +kernel
theorem dX6_init_144 : decode cX6_init 144 = .ok (.bipush 10, 2) := by decide +kernel
theorem dX6_init_146 : decode cX6_init 146 = .ok (.iload_n 1, 1) := by decide +kernel
theorem dX6_init_147 : decode cX6_init 147 = .ok (.imul, 1) := by decide +kernel
theorem dX6_init_148 : decode cX6_init 148 = .ok (.iastore, 1) := by decide +kernel
theorem dX6_init_149 : decode cX6_init 149 = .ok (.aload_n 0, 1) := by decide +kernel
theorem dX6_init_150 : decode cX6_init 150 = .ok (.getfield 7, 3) := by decide +kernel
theorem dX6_init_153 : decode cX6_init 153 = .ok (.bipush 15, 2) := by decide +kernel
theorem dX6_init_155 : decode cX6_init 155 = .ok (.iload_n 1, 1) := by decide +kernel
theorem dX6_init_156 : decode cX6_init 156 = .ok (.iadd, 1) := by decide +kernel
theorem dX6_init_157 : decode cX6_init 157 = .ok (.iconst 2, 1) := by decide +kernel
theorem dX6_init_158 : decode cX6_init 158 = .ok (.iastore, 1) := by decide +kernel
theorem dX6_init_159 : decode cX6_init 159 = .ok (.iinc 1 1, 3) := by decide +kernel
theorem dX6_init_162 : decode cX6_init 162 = .ok (.goto (-31), 3) := by decide +kernel
theorem dX6_init_165 : decode cX6_init 165 = .ok (.return_, 1) := by decide +kernel
theorem dX6_in_0 : decode cX6_in 0 = .ok (.iload_n 0, 1) := by decide +kernel
theorem dX6_in_1 : decode cX6_in 1 = .ok (.iload_n 1, 1) := by decide +kernel
theorem dX6_in_2 : decode cX6_in 2 = .ok (.if_icmp .lt 12, 3) := by decide +kernel
theorem dX6_in_5 : decode cX6_in 5 = .ok (.iload_n 0, 1) := by decide +kernel
theorem dX6_in_6 : decode cX6_in 6 = .ok (.iload_n 2, 1) := by decide +kernel
theorem dX6_in_7 : decode cX6_in 7 = .ok (.if_icmp .gt 7, 3) := by decide +kernel
theorem dX6_in_10 : decode cX6_in 10 = .ok (.iconst 1, 1) := by decide +kernel
theorem dX6_in_11 : decode cX6_in 11 = .ok (.goto 4, 3) := by decide +kernel
theorem dX6_in_14 : decode cX6_in 14 = .ok (.iconst 0, 1) := by decide +kernel
theorem dX6_in_15 : decode cX6_in 15 = .ok (.ireturn, 1) := by decide +kernel
theorem dX6_n_0 : decode cX6_n 0 = .ok (.aload_n 0, 1) := by decide +kernel
theorem dX6_n_1 : decode cX6_n 1 = .ok (.getfield 7, 3) := by decide +kernel
theorem dX6_n_4 : decode cX6_n 4 = .ok (.iconst 0, 1) := by decide +kernel
theorem dX6_n_5 : decode cX6_n 5 = .ok (.iaload, 1) := by decide +kernel
theorem dX6_n_6 : decode cX6_n 6 = .ok (.ireturn, 1) := by decide +kernel
theorem dX6_k_0 : decode cX6_k 0 = .ok (.aload_n 0, 1) := by decide +kernel
theorem dX6_k_1 : decode cX6_k 1 = .ok (.getfield 7, 3) := by decide +kernel
theorem dX6_k_4 : decode cX6_k 4 = .ok (.iconst 1, 1) := by decide +kernel
theorem dX6_k_5 : decode cX6_k 5 = .ok (.iaload, 1) := by decide +kernel
theorem dX6_k_6 : decode cX6_k 6 = .ok (.ireturn, 1) := by decide +kernel
theorem dX6_begins_0 : decode cX6_begins 0 = .ok (.aload_n 0, 1) := by decide +kernel
theorem dX6_begins_1 : decode cX6_begins 1 = .ok (.getfield 51, 3) := by decide +kernel
theorem dX6_begins_4 : decode cX6_begins 4 = .ok (.bipush 8, 2) := by decide +kernel
theorem dX6_begins_6 : decode cX6_begins 6 = .ok (.if_icmp .ne 43, 3) := by decide +kernel
theorem dX6_begins_9 : decode cX6_begins 9 = .ok (.iconst 0, 1) := by decide +kernel
theorem dX6_begins_10 : decode cX6_begins 10 = .ok (.istore_n 1, 1) := by decide +kernel
theorem dX6_begins_11 : decode cX6_begins 11 = .ok (.iload_n 1, 1) := by decide +kernel
theorem dX6_begins_12 : decode cX6_begins 12 = .ok (.sipush 154, 3) := by decide +kernel
theorem dX6_begins_15 : decode cX6_begins 15 = .ok (.if_icmp .ge 24, 3) := by decide +kernel
theorem dX6_begins_18 : decode cX6_begins 18 = .ok (.aload_n 0, 1) := by decide +kernel
theorem dX6_begins_19 : decode cX6_begins 19 = .ok (.getfield 13, 3) := by decide +kernel
theorem dX6_begins_22 : decode cX6_begins 22 = .ok (.iload_n 1, 1) := by decide +kernel
theorem dX6_begins_23 : decode cX6_begins 23 = .ok (.aload_n 0, 1) := by decide +kernel
theorem dX6_begins_24 : decode cX6_begins 24 = .ok (.getfield 13, 3) := by decide +kernel
theorem dX6_begins_27 : decode cX6_begins 27 = .ok (.iload_n 1, 1) := by decide +kernel
theorem dX6_begins_28 : decode cX6_begins 28 = .ok (.bipush 22, 2) := by decide +kernel
theorem dX6_begins_30 : decode cX6_begins 30 = .ok (.iadd, 1) := by decide +kernel
theorem dX6_begins_31 : decode cX6_begins 31 = .ok (.iaload, 1) := by decide +kernel
theorem dX6_begins_32 : decode cX6_begins 32 = .ok (.iastore, 1) := by decide +kernel
theorem dX6_begins_33 : decode cX6_begins 33 = .ok (.iinc 1 1, 3) := by decide +kernel
theorem dX6_begins_36 : decode cX6_begins 36 = .ok (.goto (-25), 3) := by decide +kernel
theorem dX6_begins_39 : decode cX6_begins 39 = .ok (.aload_n 0, 1) := by decide +kernel
theorem dX6_begins_40 : decode cX6_begins 40 = .ok (.dup, 1) := by decide +kernel
theorem dX6_begins_41 : decode cX6_begins 41 = .ok (.getfield 51, 3) := by decide +kernel
theorem dX6_begins_44 : decode cX6_begins 44 = .ok (.iconst 1, 1) := by decide +kernel
theorem dX6_begins_45 : decode cX6_begins 45 = .ok (.isub, 1) := by decide +kernel
theorem dX6_begins_46 : decode cX6_begins 46 = .ok (.putfield 51, 3) := by decide +kernel
theorem dX6_begins_49 : decode cX6_begins 49 = .ok (.iconst 0, 1) := by decide +kernel
theorem dX6_begins_50 : decode cX6_begins 50 = .ok (.istore_n 1, 1) := by decide +kernel
theorem dX6_begins_51 : decode cX6_begins 51 = .ok (.iload_n 1, 1) := by decide +kernel
theorem dX6_begins_52 : decode cX6_begins 52 = .ok (.bipush 22, 2) := by decide +kernel
theorem dX6_begins_54 : decode cX6_begins 54 = .ok (.if_icmp .ge 29, 3) := by decide +kernel
theorem dX6_begins_57 : decode cX6_begins 57 = .ok (.aload_n 0, 1) := by decide +kernel
theorem dX6_begins_58 : decode cX6_begins 58 = .ok (.getfield 13, 3) := by decide +kernel
theorem dX6_begins_61 : decode cX6_begins 61 = .ok (.bipush 22, 2) := by decide +kernel
theorem dX6_begins_63 : decode cX6_begins 63 = .ok (.aload_n 0, 1) := by decide +kernel
theorem dX6_begins_64 : decode cX6_begins 64 = .ok (.getfield 51, 3) := by decide +kernel
theorem dX6_begins_67 : decode cX6_begins 67 = .ok (.imul, 1) := by decide +kernel
theorem dX6_begins_68 : decode cX6_begins 68 = .ok (.iload_n 1, 1) := by decide +kernel
theorem dX6_begins_69 : decode cX6_begins 69 = .ok (.iadd, 1) := by decide +kernel
theorem dX6_begins_70 : decode cX6_begins 70 = .ok (.aload_n 0, 1) := by decide +kernel
theorem dX6_begins_71 : decode cX6_begins 71 = .ok (.getfield 7, 3) := by decide +kernel
theorem dX6_begins_74 : decode cX6_begins 74 = .ok (.iload_n 1, 1) := by decide +kernel
theorem dX6_begins_75 : decode cX6_begins 75 = .ok (.iaload, 1) := by decide +kernel
theorem dX6_begins_76 : decode cX6_begins 76 = .ok (.iastore, 1) := by decide +kernel
theorem dX6_begins_77 : decode cX6_begins 77 = .ok (.iinc 1 1, 3) := by decide +kernel
theorem dX6_begins_80 : decode cX6_begins 80 = .ok (.goto (-29), 3) := by decide +kernel
theorem dX6_begins_83 : decode cX6_begins 83 = .ok (.aload_n 0, 1) := by decide +kernel
theorem dX6_begins_84 : decode cX6_begins 84 = .ok (.dup, 1) := by decide +kernel
theorem dX6_begins_85 : decode cX6_begins 85 = .ok (.getfield 51, 3) := by decide +kernel
theorem dX6_begins_88 : decode cX6_begins 88 = .ok (.iconst 1, 1) := by decide +kernel
theorem dX6_begins_89 : decode cX6_begins 89 = .ok (.iadd, 1) := by decide +kernel
theorem dX6_begins_90 : decode cX6_begins 90 = .ok (.putfield 51, 3) := by decide +kernel
theorem dX6_begins_93 : decode cX6_begins 93 = .ok (.aload_n 0, 1) := by decide +kernel
theorem dX6_begins_94 : decode cX6_begins 94 = .ok (.iconst 0, 1) := by decide +kernel
theorem dX6_begins_95 : decode cX6_begins 95 = .ok (.putfield 55, 3) := by decide +kernel
theorem dX6_begins_98 : decode cX6_begins 98 = .ok (.return_, 1) := by decide +kernel
theorem dX6_undo_0 : decode cX6_undo 0 = .ok (.aload_n 0, 1) := by decide +kernel
theorem dX6_undo_1 : decode cX6_undo 1 = .ok (.getfield 51, 3) := by decide +kernel
theorem dX6_undo_4 : decode cX6_undo 4 = .ok (.ifCond .ne 6, 3) := by decide +kernel
theorem dX6_undo_7 : decode cX6_undo 7 = .ok (.bipush (-2), 2) := by decide +kernel
theorem dX6_undo_9 : decode cX6_undo 9 = .ok (.ireturn, 1) := by decide +kernel
theorem dX6_undo_10 : decode cX6_undo 10 = .ok (.aload_n 0, 1) := by decide +kernel
theorem dX6_undo_11 : decode cX6_undo 11 = .ok (.dup, 1) := by decide +kernel
theorem dX6_undo_12 : decode cX6_undo 12 = .ok (.getfield 51, 3) := by decide +kernel
theorem dX6_undo_15 : decode cX6_undo 15 = .ok (.iconst 1, 1) := by decide +kernel
theorem dX6_undo_16 : decode cX6_undo 16 = .ok (.isub, 1) := by decide +kernel
theorem dX6_undo_17 : decode cX6_undo 17 = .ok (.putfield 51, 3) := by decide +kernel
theorem dX6_undo_20 : decode cX6_undo 20 = .ok (.iconst 0, 1) := by decide +kernel
theorem dX6_undo_21 : decode cX6_undo 21 = .ok (.istore_n 1, 1) := by decide +kernel
theorem dX6_undo_22 : decode cX6_undo 22 = .ok (.iload_n 1, 1) := by decide +kernel
theorem dX6_undo_23 : decode cX6_undo 23 = .ok (.bipush 22, 2) := by decide +kernel
theorem dX6_undo_25 : decode cX6_undo 25 = .ok (.if_icmp .ge 29, 3) := by decide +kernel
theorem dX6_undo_28 : decode cX6_undo 28 = .ok (.aload_n 0, 1) := by decide +kernel
theorem dX6_undo_29 : decode cX6_undo 29 = .ok (.getfield 7, 3) := by decide +kernel
theorem dX6_undo_32 : decode cX6_undo 32 = .ok (.iload_n 1, 1) := by decide +kernel
theorem dX6_undo_33 : decode cX6_undo 33 = .ok (.aload_n 0, 1) := by decide +kernel
theorem dX6_undo_34 : decode cX6_undo 34 = .ok (.getfield 13, 3) := by decide +kernel
theorem dX6_undo_37 : decode cX6_undo 37 = .ok (.bipush 22, 2) := by decide +kernel
theorem dX6_undo_39 : decode cX6_undo 39 = .ok (.aload_n 0, 1) := by decide +kernel
theorem dX6_undo_40 : decode cX6_undo 40 = .ok (.getfield 51, 3) := by decide +kernel
theorem dX6_undo_43 : decode cX6_undo 43 = .ok (.imul, 1) := by decide +kernel
theorem dX6_undo_44 : decode cX6_undo 44 = .ok (.iload_n 1, 1) := by decide +kernel
theorem dX6_undo_45 : decode cX6_undo 45 = .ok (.iadd, 1) := by decide +kernel
theorem dX6_undo_46 : decode cX6_undo 46 = .ok (.iaload, 1) := by decide +kernel
theorem dX6_undo_47 : decode cX6_undo 47 = .ok (.iastore, 1) := by decide +kernel
theorem dX6_undo_48 : decode cX6_undo 48 = .ok (.iinc 1 1, 3) := by decide +kernel
theorem dX6_undo_51 : decode cX6_undo 51 = .ok (.goto (-29), 3) := by decide +kernel
theorem dX6_undo_54 : decode cX6_undo 54 = .ok (.aload_n 0, 1) := by decide +kernel
theorem dX6_undo_55 : decode cX6_undo 55 = .ok (.iconst 0, 1) := by decide +kernel
theorem dX6_undo_56 : decode cX6_undo 56 = .ok (.putfield 55, 3) := by decide +kernel
theorem dX6_undo_59 : decode cX6_undo 59 = .ok (.aload_n 0, 1) := by decide +kernel
theorem dX6_undo_60 : decode cX6_undo 60 = .ok (.getfield 51, 3) := by decide +kernel
theorem dX6_undo_63 : decode cX6_undo 63 = .ok (.ireturn, 1) := by decide +kernel
theorem dX6_sets_0 : decode cX6_sets 0 = .ok (.aload_n 0, 1) := by decide +kernel
theorem dX6_sets_1 : decode cX6_sets 1 = .ok (.invokevirtual 59, 3) := by decide +kernel
theorem dX6_sets_4 : decode cX6_sets 4 = .ok (.aload_n 0, 1) := by decide +kernel
theorem dX6_sets_5 : decode cX6_sets 5 = .ok (.getfield 7, 3) := by decide +kernel
theorem dX6_sets_8 : decode cX6_sets 8 = .ok (.iload_n 1, 1) := by decide +kernel
theorem dX6_sets_9 : decode cX6_sets 9 = .ok (.iaload, 1) := by decide +kernel
theorem dX6_sets_10 : decode cX6_sets 10 = .ok (.istore_n 3, 1) := by decide +kernel
theorem dX6_sets_11 : decode cX6_sets 11 = .ok (.aload_n 0, 1) := by decide +kernel
theorem dX6_sets_12 : decode cX6_sets 12 = .ok (.getfield 7, 3) := by decide +kernel
theorem dX6_sets_15 : decode cX6_sets 15 = .ok (.iload_n 1, 1) := by decide +kernel
theorem dX6_sets_16 : decode cX6_sets 16 = .ok (.iload_n 2, 1) := by decide +kernel
theorem dX6_sets_17 : decode cX6_sets 17 = .ok (.iastore, 1) := by decide +kernel
theorem dX6_sets_18 : decode cX6_sets 18 = .ok (.iload_n 3, 1) := by decide +kernel
theorem dX6_sets_19 : decode cX6_sets 19 = .ok (.ireturn, 1) := by decide +kernel
theorem dX6_leastOf_0 : decode cX6_leastOf 0 = .ok (.iload_n 0, 1) := by decide +kernel
theorem dX6_leastOf_1 : decode cX6_leastOf 1 = .ok (.ifCond .eq 8, 3) := by decide +kernel
theorem dX6_leastOf_4 : decode cX6_leastOf 4 = .ok (.iload_n 0, 1) := by decide +kernel
theorem dX6_leastOf_5 : decode cX6_leastOf 5 = .ok (.iconst 1, 1) := by decide +kernel
theorem dX6_leastOf_6 : decode cX6_leastOf 6 = .ok (.if_icmp .ne 7, 3) := by decide +kernel
theorem dX6_leastOf_9 : decode cX6_leastOf 9 = .ok (.iconst 1, 1) := by decide +kernel
theorem dX6_leastOf_10 : decode cX6_leastOf 10 = .ok (.goto 4, 3) := by decide +kernel
theorem dX6_leastOf_13 : decode cX6_leastOf 13 = .ok (.iconst 0, 1) := by decide +kernel
theorem dX6_leastOf_14 : decode cX6_leastOf 14 = .ok (.ireturn, 1) := by decide +kernel
theorem dX6_mostOf_0 : decode cX6_mostOf 0 = .ok (.iload_n 0, 1) := by decide +kernel
theorem dX6_mostOf_1 : decode cX6_mostOf 1 = .ok (.ifCond .ne 8, 3) := by decide +kernel
theorem dX6_mostOf_4 : decode cX6_mostOf 4 = .ok (.bipush 7, 2) := by decide +kernel
theorem dX6_mostOf_6 : decode cX6_mostOf 6 = .ok (.goto 35, 3) := by decide +kernel
theorem dX6_mostOf_9 : decode cX6_mostOf 9 = .ok (.iload_n 0, 1) := by decide +kernel
theorem dX6_mostOf_10 : decode cX6_mostOf 10 = .ok (.iconst 1, 1) := by decide +kernel
theorem dX6_mostOf_11 : decode cX6_mostOf 11 = .ok (.if_icmp .ne 7, 3) := by decide +kernel
theorem dX6_mostOf_14 : decode cX6_mostOf 14 = .ok (.iconst 3, 1) := by decide +kernel
theorem dX6_mostOf_15 : decode cX6_mostOf 15 = .ok (.goto 26, 3) := by decide +kernel
theorem dX6_mostOf_18 : decode cX6_mostOf 18 = .ok (.iload_n 0, 1) := by decide +kernel
theorem dX6_mostOf_19 : decode cX6_mostOf 19 = .ok (.iconst 2, 1) := by decide +kernel
theorem dX6_mostOf_20 : decode cX6_mostOf 20 = .ok (.if_icmp .ne 8, 3) := by decide +kernel
theorem dX6_mostOf_23 : decode cX6_mostOf 23 = .ok (.bipush 20, 2) := by decide +kernel
theorem dX6_mostOf_25 : decode cX6_mostOf 25 = .ok (.goto 16, 3) := by decide +kernel
theorem dX6_mostOf_28 : decode cX6_mostOf 28 = .ok (.iload_n 0, 1) := by decide +kernel
theorem dX6_mostOf_29 : decode cX6_mostOf 29 = .ok (.bipush 15, 2) := by decide +kernel
theorem dX6_mostOf_31 : decode cX6_mostOf 31 = .ok (.if_icmp .ge 8, 3) := by decide +kernel
theorem dX6_mostOf_34 : decode cX6_mostOf 34 = .ok (.bipush 99, 2) := by decide +kernel
theorem dX6_mostOf_36 : decode cX6_mostOf 36 = .ok (.goto 5, 3) := by decide +kernel
theorem dX6_mostOf_39 : decode cX6_mostOf 39 = .ok (.bipush 10, 2) := by decide +kernel
theorem dX6_mostOf_41 : decode cX6_mostOf 41 = .ok (.ireturn, 1) := by decide +kernel
theorem dX6_isRight_0 : decode cX6_isRight 0 = .ok (.iload_n 1, 1) := by decide +kernel
theorem dX6_isRight_1 : decode cX6_isRight 1 = .ok (.iload_n 0, 1) := by decide +kernel
theorem dX6_isRight_2 : decode cX6_isRight 2 = .ok (.invokestatic 62, 3) := by decide +kernel
theorem dX6_isRight_5 : decode cX6_isRight 5 = .ok (.iload_n 0, 1) := by decide +kernel
theorem dX6_isRight_6 : decode cX6_isRight 6 = .ok (.invokestatic 66, 3) := by decide +kernel
theorem dX6_isRight_9 : decode cX6_isRight 9 = .ok (.invokestatic 69, 3) := by decide +kernel
theorem dX6_isRight_12 : decode cX6_isRight 12 = .ok (.ireturn, 1) := by decide +kernel
theorem dX6_setCount_0 : decode cX6_setCount 0 = .ok (.iload_n 1, 1) := by decide +kernel
theorem dX6_setCount_1 : decode cX6_setCount 1 = .ok (.iconst 0, 1) := by decide +kernel
theorem dX6_setCount_2 : decode cX6_setCount 2 = .ok (.iconst 2, 1) := by decide +kernel
theorem dX6_setCount_3 : decode cX6_setCount 3 = .ok (.invokestatic 69, 3) := by decide +kernel
theorem dX6_setCount_6 : decode cX6_setCount 6 = .ok (.ifCond .eq 20, 3) := by decide +kernel
theorem dX6_setCount_9 : decode cX6_setCount 9 = .ok (.iload_n 1, 1) := by decide +kernel
theorem dX6_setCount_10 : decode cX6_setCount 10 = .ok (.iload_n 2, 1) := by decide +kernel
theorem dX6_setCount_11 : decode cX6_setCount 11 = .ok (.invokestatic 73, 3) := by decide +kernel
theorem dX6_setCount_14 : decode cX6_setCount 14 = .ok (.ifCond .eq 12, 3) := by decide +kernel
theorem dX6_setCount_17 : decode cX6_setCount 17 = .ok (.aload_n 0, 1) := by decide +kernel
theorem dX6_setCount_18 : decode cX6_setCount 18 = .ok (.iload_n 1, 1) := by decide +kernel
theorem dX6_setCount_19 : decode cX6_setCount 19 = .ok (.iload_n 2, 1) := by decide +kernel
theorem dX6_setCount_20 : decode cX6_setCount 20 = .ok (.invokevirtual 77, 3) := by decide +kernel
theorem dX6_setCount_23 : decode cX6_setCount 23 = .ok (.goto 4, 3) := by decide +kernel
theorem dX6_setCount_26 : decode cX6_setCount 26 = .ok (.iconst (-1), 1) := by decide +kernel
theorem dX6_setCount_27 : decode cX6_setCount 27 = .ok (.ireturn, 1) := by decide +kernel
theorem dX6_setPayoff_0 : decode cX6_setPayoff 0 = .ok (.iload_n 1, 1) := by decide +kernel
theorem dX6_setPayoff_1 : decode cX6_setPayoff 1 = .ok (.iconst 1, 1) := by decide +kernel
theorem dX6_setPayoff_2 : decode cX6_setPayoff 2 = .ok (.bipush 7, 2) := by decide +kernel
theorem dX6_setPayoff_4 : decode cX6_setPayoff 4 = .ok (.invokestatic 69, 3) := by decide +kernel
theorem dX6_setPayoff_7 : decode cX6_setPayoff 7 = .ok (.ifCond .eq 26, 3) := by decide +kernel
theorem dX6_setPayoff_10 : decode cX6_setPayoff 10 = .ok (.iload_n 2, 1) := by decide +kernel
theorem dX6_setPayoff_11 : decode cX6_setPayoff 11 = .ok (.iconst 0, 1) := by decide +kernel
theorem dX6_setPayoff_12 : decode cX6_setPayoff 12 = .ok (.bipush 99, 2) := by decide +kernel
theorem dX6_setPayoff_14 : decode cX6_setPayoff 14 = .ok (.invokestatic 69, 3) := by decide +kernel
theorem dX6_setPayoff_17 : decode cX6_setPayoff 17 = .ok (.ifCond .eq 16, 3) := by decide +kernel
theorem dX6_setPayoff_20 : decode cX6_setPayoff 20 = .ok (.aload_n 0, 1) := by decide +kernel
theorem dX6_setPayoff_21 : decode cX6_setPayoff 21 = .ok (.iconst 3, 1) := by decide +kernel
theorem dX6_setPayoff_22 : decode cX6_setPayoff 22 = .ok (.iload_n 1, 1) := by decide +kernel
theorem dX6_setPayoff_23 : decode cX6_setPayoff 23 = .ok (.iadd, 1) := by decide +kernel
theorem dX6_setPayoff_24 : decode cX6_setPayoff 24 = .ok (.iconst 1, 1) := by decide +kernel
theorem dX6_setPayoff_25 : decode cX6_setPayoff 25 = .ok (.isub, 1) := by decide +kernel
theorem dX6_setPayoff_26 : decode cX6_setPayoff 26 = .ok (.iload_n 2, 1) := by decide +kernel
theorem dX6_setPayoff_27 : decode cX6_setPayoff 27 = .ok (.invokevirtual 77, 3) := by decide +kernel
theorem dX6_setPayoff_30 : decode cX6_setPayoff 30 = .ok (.goto 4, 3) := by decide +kernel
theorem dX6_setPayoff_33 : decode cX6_setPayoff 33 = .ok (.iconst (-1), 1) := by decide +kernel
theorem dX6_setPayoff_34 : decode cX6_setPayoff 34 = .ok (.ireturn, 1) := by decide +kernel
theorem dX6_setLevel_0 : decode cX6_setLevel 0 = .ok (.iload_n 1, 1) := by decide +kernel
theorem dX6_setLevel_1 : decode cX6_setLevel 1 = .ok (.iconst 0, 1) := by decide +kernel
theorem dX6_setLevel_2 : decode cX6_setLevel 2 = .ok (.iconst 4, 1) := by decide +kernel
theorem dX6_setLevel_3 : decode cX6_setLevel 3 = .ok (.invokestatic 69, 3) := by decide +kernel
theorem dX6_setLevel_6 : decode cX6_setLevel 6 = .ok (.ifCond .eq 25, 3) := by decide +kernel
theorem dX6_setLevel_9 : decode cX6_setLevel 9 = .ok (.iload_n 2, 1) := by decide +kernel
theorem dX6_setLevel_10 : decode cX6_setLevel 10 = .ok (.iconst 0, 1) := by decide +kernel
theorem dX6_setLevel_11 : decode cX6_setLevel 11 = .ok (.bipush 99, 2) := by decide +kernel
theorem dX6_setLevel_13 : decode cX6_setLevel 13 = .ok (.invokestatic 69, 3) := by decide +kernel
theorem dX6_setLevel_16 : decode cX6_setLevel 16 = .ok (.ifCond .eq 15, 3) := by decide +kernel
theorem dX6_setLevel_19 : decode cX6_setLevel 19 = .ok (.aload_n 0, 1) := by decide +kernel
theorem dX6_setLevel_20 : decode cX6_setLevel 20 = .ok (.bipush 10, 2) := by decide +kernel
theorem dX6_setLevel_22 : decode cX6_setLevel 22 = .ok (.iload_n 1, 1) := by decide +kernel
theorem dX6_setLevel_23 : decode cX6_setLevel 23 = .ok (.iadd, 1) := by decide +kernel
theorem dX6_setLevel_24 : decode cX6_setLevel 24 = .ok (.iload_n 2, 1) := by decide +kernel
theorem dX6_setLevel_25 : decode cX6_setLevel 25 = .ok (.invokevirtual 77, 3) := by decide +kernel
theorem dX6_setLevel_28 : decode cX6_setLevel 28 = .ok (.goto 4, 3) := by decide +kernel
theorem dX6_setLevel_31 : decode cX6_setLevel 31 = .ok (.iconst (-1), 1) := by decide +kernel
theorem dX6_setLevel_32 : decode cX6_setLevel 32 = .ok (.ireturn, 1) := by decide +kernel
theorem dX6_setRecall_0 : decode cX6_setRecall 0 = .ok (.iload_n 1, 1) := by decide +kernel
theorem dX6_setRecall_1 : decode cX6_setRecall 1 = .ok (.iconst 1, 1) := by decide +kernel
theorem dX6_setRecall_2 : decode cX6_setRecall 2 = .ok (.iconst 2, 1) := by decide +kernel
theorem dX6_setRecall_3 : decode cX6_setRecall 3 = .ok (.invokestatic 69, 3) := by decide +kernel
theorem dX6_setRecall_6 : decode cX6_setRecall 6 = .ok (.ifCond .eq 27, 3) := by decide +kernel
theorem dX6_setRecall_9 : decode cX6_setRecall 9 = .ok (.iload_n 2, 1) := by decide +kernel
theorem dX6_setRecall_10 : decode cX6_setRecall 10 = .ok (.iconst 0, 1) := by decide +kernel
theorem dX6_setRecall_11 : decode cX6_setRecall 11 = .ok (.bipush 10, 2) := by decide +kernel
theorem dX6_setRecall_13 : decode cX6_setRecall 13 = .ok (.invokestatic 69, 3) := by decide +kernel
theorem dX6_setRecall_16 : decode cX6_setRecall 16 = .ok (.ifCond .eq 17, 3) := by decide +kernel
theorem dX6_setRecall_19 : decode cX6_setRecall 19 = .ok (.aload_n 0, 1) := by decide +kernel
theorem dX6_setRecall_20 : decode cX6_setRecall 20 = .ok (.bipush 20, 2) := by decide +kernel
theorem dX6_setRecall_22 : decode cX6_setRecall 22 = .ok (.iload_n 1, 1) := by decide +kernel
theorem dX6_setRecall_23 : decode cX6_setRecall 23 = .ok (.iadd, 1) := by decide +kernel
theorem dX6_setRecall_24 : decode cX6_setRecall 24 = .ok (.iconst 1, 1) := by decide +kernel
theorem dX6_setRecall_25 : decode cX6_setRecall 25 = .ok (.isub, 1) := by decide +kernel
theorem dX6_setRecall_26 : decode cX6_setRecall 26 = .ok (.iload_n 2, 1) := by decide +kernel
theorem dX6_setRecall_27 : decode cX6_setRecall 27 = .ok (.invokevirtual 77, 3) := by decide +kernel
theorem dX6_setRecall_30 : decode cX6_setRecall 30 = .ok (.goto 4, 3) := by decide +kernel
theorem dX6_setRecall_33 : decode cX6_setRecall 33 = .ok (.iconst (-1), 1) := by decide +kernel
theorem dX6_setRecall_34 : decode cX6_setRecall 34 = .ok (.ireturn, 1) := by decide +kernel
theorem dX6_shiftWeight_0 : decode cX6_shiftWeight 0 = .ok (.iload_n 1, 1) := by decide +kernel
theorem dX6_shiftWeight_1 : decode cX6_shiftWeight 1 = .ok (.iconst 0, 1) := by decide +kernel
theorem dX6_shiftWeight_2 : decode cX6_shiftWeight 2 = .ok (.iconst 4, 1) := by decide +kernel
theorem dX6_shiftWeight_3 : decode cX6_shiftWeight 3 = .ok (.invokestatic 69, 3) := by decide +kernel
theorem dX6_shiftWeight_6 : decode cX6_shiftWeight 6 = .ok (.ifCond .eq 29, 3) := by decide +kernel
theorem dX6_shiftWeight_9 : decode cX6_shiftWeight 9 = .ok (.iload_n 2, 1) := by decide +kernel
theorem dX6_shiftWeight_10 : decode cX6_shiftWeight 10 = .ok (.iconst 0, 1) := by decide +kernel
theorem dX6_shiftWeight_11 : decode cX6_shiftWeight 11 = .ok (.iconst 4, 1) := by decide +kernel
theorem dX6_shiftWeight_12 : decode cX6_shiftWeight 12 = .ok (.invokestatic 69, 3) := by decide +kernel
theorem dX6_shiftWeight_15 : decode cX6_shiftWeight 15 = .ok (.ifCond .eq 20, 3) := by decide +kernel
theorem dX6_shiftWeight_18 : decode cX6_shiftWeight 18 = .ok (.iload_n 3, 1) := by decide +kernel
theorem dX6_shiftWeight_19 : decode cX6_shiftWeight 19 = .ok (.iconst 0, 1) := by decide +kernel
theorem dX6_shiftWeight_20 : decode cX6_shiftWeight 20 = .ok (.aload_n 0, 1) := by decide +kernel
theorem dX6_shiftWeight_21 : decode cX6_shiftWeight 21 = .ok (.getfield 7, 3) := by decide +kernel
theorem dX6_shiftWeight_24 : decode cX6_shiftWeight 24 = .ok (.bipush 15, 2) := by decide +kernel
theorem dX6_shiftWeight_26 : decode cX6_shiftWeight 26 = .ok (.iload_n 1, 1) := by decide +kernel
theorem dX6_shiftWeight_27 : decode cX6_shiftWeight 27 = .ok (.iadd, 1) := by decide +kernel
theorem dX6_shiftWeight_28 : decode cX6_shiftWeight 28 = .ok (.iaload, 1) := by decide +kernel
theorem dX6_shiftWeight_29 : decode cX6_shiftWeight 29 = .ok (.invokestatic 69, 3) := by decide +kernel
theorem dX6_shiftWeight_32 : decode cX6_shiftWeight 32 = .ok (.ifCond .ne 5, 3) := by decide +kernel
theorem dX6_shiftWeight_35 : decode cX6_shiftWeight 35 = .ok (.iconst (-1), 1) := by decide +kernel
theorem dX6_shiftWeight_36 : decode cX6_shiftWeight 36 = .ok (.ireturn, 1) := by decide +kernel
theorem dX6_shiftWeight_37 : decode cX6_shiftWeight 37 = .ok (.aload_n 0, 1) := by decide +kernel
theorem dX6_shiftWeight_38 : decode cX6_shiftWeight 38 = .ok (.invokevirtual 59, 3) := by decide +kernel
theorem dX6_shiftWeight_41 : decode cX6_shiftWeight 41 = .ok (.aload_n 0, 1) := by decide +kernel
theorem dX6_shiftWeight_42 : decode cX6_shiftWeight 42 = .ok (.getfield 7, 3) := by decide +kernel
theorem dX6_shiftWeight_45 : decode cX6_shiftWeight 45 = .ok (.bipush 15, 2) := by decide +kernel
theorem dX6_shiftWeight_47 : decode cX6_shiftWeight 47 = .ok (.iload_n 1, 1) := by decide +kernel
theorem dX6_shiftWeight_48 : decode cX6_shiftWeight 48 = .ok (.iadd, 1) := by decide +kernel
theorem dX6_shiftWeight_49 : decode cX6_shiftWeight 49 = .ok (.dup2, 1) := by decide +kernel
theorem dX6_shiftWeight_50 : decode cX6_shiftWeight 50 = .ok (.iaload, 1) := by decide +kernel
theorem dX6_shiftWeight_51 : decode cX6_shiftWeight 51 = .ok (.iload_n 3, 1) := by decide +kernel
theorem dX6_shiftWeight_52 : decode cX6_shiftWeight 52 = .ok (.isub, 1) := by decide +kernel
theorem dX6_shiftWeight_53 : decode cX6_shiftWeight 53 = .ok (.iastore, 1) := by decide +kernel
theorem dX6_shiftWeight_54 : decode cX6_shiftWeight 54 = .ok (.aload_n 0, 1) := by decide +kernel
theorem dX6_shiftWeight_55 : decode cX6_shiftWeight 55 = .ok (.getfield 7, 3) := by decide +kernel
theorem dX6_shiftWeight_58 : decode cX6_shiftWeight 58 = .ok (.bipush 15, 2) := by decide +kernel
theorem dX6_shiftWeight_60 : decode cX6_shiftWeight 60 = .ok (.iload_n 2, 1) := by decide +kernel
theorem dX6_shiftWeight_61 : decode cX6_shiftWeight 61 = .ok (.iadd, 1) := by decide +kernel
theorem dX6_shiftWeight_62 : decode cX6_shiftWeight 62 = .ok (.dup2, 1) := by decide +kernel
theorem dX6_shiftWeight_63 : decode cX6_shiftWeight 63 = .ok (.iaload, 1) := by decide +kernel
theorem dX6_shiftWeight_64 : decode cX6_shiftWeight 64 = .ok (.iload_n 3, 1) := by decide +kernel
theorem dX6_shiftWeight_65 : decode cX6_shiftWeight 65 = .ok (.iadd, 1) := by decide +kernel
theorem dX6_shiftWeight_66 : decode cX6_shiftWeight 66 = .ok (.iastore, 1) := by decide +kernel
theorem dX6_shiftWeight_67 : decode cX6_shiftWeight 67 = .ok (.aload_n 0, 1) := by decide +kernel
theorem dX6_shiftWeight_68 : decode cX6_shiftWeight 68 = .ok (.getfield 7, 3) := by decide +kernel
theorem dX6_shiftWeight_71 : decode cX6_shiftWeight 71 = .ok (.bipush 15, 2) := by decide +kernel
theorem dX6_shiftWeight_73 : decode cX6_shiftWeight 73 = .ok (.iload_n 2, 1) := by decide +kernel
theorem dX6_shiftWeight_74 : decode cX6_shiftWeight 74 = .ok (.iadd, 1) := by decide +kernel
theorem dX6_shiftWeight_75 : decode cX6_shiftWeight 75 = .ok (.iaload, 1) := by decide +kernel
theorem dX6_shiftWeight_76 : decode cX6_shiftWeight 76 = .ok (.ireturn, 1) := by decide +kernel
theorem dX6_parameter_0 : decode cX6_parameter 0 = .ok (.iload_n 1, 1) := by decide +kernel
theorem dX6_parameter_1 : decode cX6_parameter 1 = .ok (.iconst 0, 1) := by decide +kernel
theorem dX6_parameter_2 : decode cX6_parameter 2 = .ok (.bipush 21, 2) := by decide +kernel
theorem dX6_parameter_4 : decode cX6_parameter 4 = .ok (.invokestatic 69, 3) := by decide +kernel
theorem dX6_parameter_7 : decode cX6_parameter 7 = .ok (.ifCond .eq 12, 3) := by decide +kernel
theorem dX6_parameter_10 : decode cX6_parameter 10 = .ok (.aload_n 0, 1) := by decide +kernel
theorem dX6_parameter_11 : decode cX6_parameter 11 = .ok (.getfield 7, 3) := by decide +kernel
theorem dX6_parameter_14 : decode cX6_parameter 14 = .ok (.iload_n 1, 1) := by decide +kernel
theorem dX6_parameter_15 : decode cX6_parameter 15 = .ok (.iaload, 1) := by decide +kernel
theorem dX6_parameter_16 : decode cX6_parameter 16 = .ok (.goto 4, 3) := by decide +kernel
theorem dX6_parameter_19 : decode cX6_parameter 19 = .ok (.iconst (-1), 1) := by decide +kernel
theorem dX6_parameter_20 : decode cX6_parameter 20 = .ok (.ireturn, 1) := by decide +kernel
theorem dX6_type_0 : decode cX6_type 0 = .ok (.iload_n 1, 1) := by decide +kernel
theorem dX6_type_1 : decode cX6_type 1 = .ok (.bipush 32, 2) := by decide +kernel
theorem dX6_type_3 : decode cX6_type 3 = .ok (.bipush 126, 2) := by decide +kernel
theorem dX6_type_5 : decode cX6_type 5 = .ok (.invokestatic 69, 3) := by decide +kernel
theorem dX6_type_8 : decode cX6_type 8 = .ok (.ifCond .ne 5, 3) := by decide +kernel
theorem dX6_type_11 : decode cX6_type 11 = .ok (.iconst (-1), 1) := by decide +kernel
theorem dX6_type_12 : decode cX6_type 12 = .ok (.ireturn, 1) := by decide +kernel
theorem dX6_type_13 : decode cX6_type 13 = .ok (.aload_n 0, 1) := by decide +kernel
theorem dX6_type_14 : decode cX6_type 14 = .ok (.getfield 81, 3) := by decide +kernel
theorem dX6_type_17 : decode cX6_type 17 = .ok (.bipush 60, 2) := by decide +kernel
theorem dX6_type_19 : decode cX6_type 19 = .ok (.if_icmp .ne 6, 3) := by decide +kernel
theorem dX6_type_22 : decode cX6_type 22 = .ok (.bipush (-3), 2) := by decide +kernel
theorem dX6_type_24 : decode cX6_type 24 = .ok (.ireturn, 1) := by decide +kernel
theorem dX6_type_25 : decode cX6_type 25 = .ok (.aload_n 0, 1) := by decide +kernel
theorem dX6_type_26 : decode cX6_type 26 = .ok (.getfield 20, 3) := by decide +kernel
theorem dX6_type_29 : decode cX6_type 29 = .ok (.aload_n 0, 1) := by decide +kernel
theorem dX6_type_30 : decode cX6_type 30 = .ok (.getfield 81, 3) := by decide +kernel
theorem dX6_type_33 : decode cX6_type 33 = .ok (.iload_n 1, 1) := by decide +kernel
theorem dX6_type_34 : decode cX6_type 34 = .ok (.iastore, 1) := by decide +kernel
theorem dX6_type_35 : decode cX6_type 35 = .ok (.aload_n 0, 1) := by decide +kernel
theorem dX6_type_36 : decode cX6_type 36 = .ok (.dup, 1) := by decide +kernel
theorem dX6_type_37 : decode cX6_type 37 = .ok (.getfield 81, 3) := by decide +kernel
theorem dX6_type_40 : decode cX6_type 40 = .ok (.iconst 1, 1) := by decide +kernel
theorem dX6_type_41 : decode cX6_type 41 = .ok (.iadd, 1) := by decide +kernel
theorem dX6_type_42 : decode cX6_type 42 = .ok (.putfield 81, 3) := by decide +kernel
theorem dX6_type_45 : decode cX6_type 45 = .ok (.aload_n 0, 1) := by decide +kernel
theorem dX6_type_46 : decode cX6_type 46 = .ok (.getfield 81, 3) := by decide +kernel
theorem dX6_type_49 : decode cX6_type 49 = .ok (.ireturn, 1) := by decide +kernel
theorem dX6_clearText_0 : decode cX6_clearText 0 = .ok (.aload_n 0, 1) := by decide +kernel
theorem dX6_clearText_1 : decode cX6_clearText 1 = .ok (.getfield 81, 3) := by decide +kernel
theorem dX6_clearText_4 : decode cX6_clearText 4 = .ok (.istore_n 1, 1) := by decide +kernel
theorem dX6_clearText_5 : decode cX6_clearText 5 = .ok (.aload_n 0, 1) := by decide +kernel
theorem dX6_clearText_6 : decode cX6_clearText 6 = .ok (.iconst 0, 1) := by decide +kernel
theorem dX6_clearText_7 : decode cX6_clearText 7 = .ok (.putfield 81, 3) := by decide +kernel
theorem dX6_clearText_10 : decode cX6_clearText 10 = .ok (.iload_n 1, 1) := by decide +kernel
theorem dX6_clearText_11 : decode cX6_clearText 11 = .ok (.ireturn, 1) := by decide +kernel
theorem dX6_here_0 : decode cX6_here 0 = .ok (.aload_n 0, 1) := by decide +kernel
theorem dX6_here_1 : decode cX6_here 1 = .ok (.getfield 84, 3) := by decide +kernel
theorem dX6_here_4 : decode cX6_here 4 = .ok (.aload_n 0, 1) := by decide +kernel
theorem dX6_here_5 : decode cX6_here 5 = .ok (.getfield 81, 3) := by decide +kernel
theorem dX6_here_8 : decode cX6_here 8 = .ok (.if_icmp .ge 15, 3) := by decide +kernel
theorem dX6_here_11 : decode cX6_here 11 = .ok (.aload_n 0, 1) := by decide +kernel
theorem dX6_here_12 : decode cX6_here 12 = .ok (.getfield 20, 3) := by decide +kernel
theorem dX6_here_15 : decode cX6_here 15 = .ok (.aload_n 0, 1) := by decide +kernel
theorem dX6_here_16 : decode cX6_here 16 = .ok (.getfield 84, 3) := by decide +kernel
theorem dX6_here_19 : decode cX6_here 19 = .ok (.iaload, 1) := by decide +kernel
theorem dX6_here_20 : decode cX6_here 20 = .ok (.goto 5, 3) := by decide +kernel
theorem dX6_here_23 : decode cX6_here 23 = .ok (.bipush (-9), 2) := by decide +kernel
theorem dX6_here_25 : decode cX6_here 25 = .ok (.ireturn, 1) := by decide +kernel
theorem dX6_skips_0 : decode cX6_skips 0 = .ok (.aload_n 0, 1) := by decide +kernel
theorem dX6_skips_1 : decode cX6_skips 1 = .ok (.invokevirtual 87, 3) := by decide +kernel
theorem dX6_skips_4 : decode cX6_skips 4 = .ok (.bipush 32, 2) := by decide +kernel
theorem dX6_skips_6 : decode cX6_skips 6 = .ok (.if_icmp .ne 16, 3) := by decide +kernel
theorem dX6_skips_9 : decode cX6_skips 9 = .ok (.aload_n 0, 1) := by decide +kernel
theorem dX6_skips_10 : decode cX6_skips 10 = .ok (.dup, 1) := by decide +kernel
theorem dX6_skips_11 : decode cX6_skips 11 = .ok (.getfield 84, 3) := by decide +kernel
theorem dX6_skips_14 : decode cX6_skips 14 = .ok (.iconst 1, 1) := by decide +kernel
theorem dX6_skips_15 : decode cX6_skips 15 = .ok (.iadd, 1) := by decide +kernel
theorem dX6_skips_16 : decode cX6_skips 16 = .ok (.putfield 84, 3) := by decide +kernel
theorem dX6_skips_19 : decode cX6_skips 19 = .ok (.goto (-19), 3) := by decide +kernel
theorem dX6_skips_22 : decode cX6_skips 22 = .ok (.return_, 1) := by decide +kernel
theorem dX6_fails_0 : decode cX6_fails 0 = .ok (.aload_n 0, 1) := by decide +kernel
theorem dX6_fails_1 : decode cX6_fails 1 = .ok (.getfield 91, 3) := by decide +kernel
theorem dX6_fails_4 : decode cX6_fails 4 = .ok (.ifCond .ne 13, 3) := by decide +kernel
theorem dX6_fails_7 : decode cX6_fails 7 = .ok (.aload_n 0, 1) := by decide +kernel
theorem dX6_fails_8 : decode cX6_fails 8 = .ok (.iload_n 1, 1) := by decide +kernel
theorem dX6_fails_9 : decode cX6_fails 9 = .ok (.putfield 91, 3) := by decide +kernel
theorem dX6_fails_12 : decode cX6_fails 12 = .ok (.aload_n 0, 1) := by decide +kernel
theorem dX6_fails_13 : decode cX6_fails 13 = .ok (.iload_n 2, 1) := by decide +kernel
theorem dX6_fails_14 : decode cX6_fails 14 = .ok (.putfield 94, 3) := by decide +kernel
theorem dX6_fails_17 : decode cX6_fails 17 = .ok (.return_, 1) := by decide +kernel
theorem dX6_placeOf_0 : decode cX6_placeOf 0 = .ok (.iload_n 0, 1) := by decide +kernel
theorem dX6_placeOf_1 : decode cX6_placeOf 1 = .ok (.tableswitch 116 99 119 #[103, 116, 116, 116, 116, 116, 116, 116, 101, 116, 116, 99, 116, 105, 116, 113, 116, 116, 116, 107, 110], 99) := by decide +kernel
theorem dX6_placeOf_100 : decode cX6_placeOf 100 = .ok (.iconst 0, 1) := by decide +kernel
theorem dX6_placeOf_101 : decode cX6_placeOf 101 = .ok (.ireturn, 1) := by decide +kernel
theorem dX6_placeOf_102 : decode cX6_placeOf 102 = .ok (.iconst 1, 1) := by decide +kernel
theorem dX6_placeOf_103 : decode cX6_placeOf 103 = .ok (.ireturn, 1) := by decide +kernel
theorem dX6_placeOf_104 : decode cX6_placeOf 104 = .ok (.iconst 2, 1) := by decide +kernel
theorem dX6_placeOf_105 : decode cX6_placeOf 105 = .ok (.ireturn, 1) := by decide +kernel
theorem dX6_placeOf_106 : decode cX6_placeOf 106 = .ok (.iconst 3, 1) := by decide +kernel
theorem dX6_placeOf_107 : decode cX6_placeOf 107 = .ok (.ireturn, 1) := by decide +kernel
theorem dX6_placeOf_108 : decode cX6_placeOf 108 = .ok (.bipush 10, 2) := by decide +kernel
theorem dX6_placeOf_110 : decode cX6_placeOf 110 = .ok (.ireturn, 1) := by decide +kernel
theorem dX6_placeOf_111 : decode cX6_placeOf 111 = .ok (.bipush 15, 2) := by decide +kernel
theorem dX6_placeOf_113 : decode cX6_placeOf 113 = .ok (.ireturn, 1) := by decide +kernel
theorem dX6_placeOf_114 : decode cX6_placeOf 114 = .ok (.bipush 20, 2) := by decide +kernel
theorem dX6_placeOf_116 : decode cX6_placeOf 116 = .ok (.ireturn, 1) := by decide +kernel
theorem dX6_placeOf_117 : decode cX6_placeOf 117 = .ok (.bipush (-9), 2) := by decide +kernel
theorem dX6_placeOf_119 : decode cX6_placeOf 119 = .ok (.ireturn, 1) := by decide +kernel
theorem dX6_numbersOf_0 : decode cX6_numbersOf 0 = .ok (.iload_n 0, 1) := by decide +kernel
theorem dX6_numbersOf_1 : decode cX6_numbersOf 1 = .ok (.iconst 3, 1) := by decide +kernel
theorem dX6_numbersOf_2 : decode cX6_numbersOf 2 = .ok (.if_icmp .ge 7, 3) := by decide +kernel
theorem dX6_numbersOf_5 : decode cX6_numbersOf 5 = .ok (.iconst 1, 1) := by decide +kernel
theorem dX6_numbersOf_6 : decode cX6_numbersOf 6 = .ok (.goto 24, 3) := by decide +kernel
theorem dX6_numbersOf_9 : decode cX6_numbersOf 9 = .ok (.iload_n 0, 1) := by decide +kernel
theorem dX6_numbersOf_10 : decode cX6_numbersOf 10 = .ok (.iconst 3, 1) := by decide +kernel
theorem dX6_numbersOf_11 : decode cX6_numbersOf 11 = .ok (.if_icmp .ne 8, 3) := by decide +kernel
theorem dX6_numbersOf_14 : decode cX6_numbersOf 14 = .ok (.bipush 7, 2) := by decide +kernel
theorem dX6_numbersOf_16 : decode cX6_numbersOf 16 = .ok (.goto 14, 3) := by decide +kernel
theorem dX6_numbersOf_19 : decode cX6_numbersOf 19 = .ok (.iload_n 0, 1) := by decide +kernel
theorem dX6_numbersOf_20 : decode cX6_numbersOf 20 = .ok (.bipush 20, 2) := by decide +kernel
theorem dX6_numbersOf_22 : decode cX6_numbersOf 22 = .ok (.if_icmp .ne 7, 3) := by decide +kernel
theorem dX6_numbersOf_25 : decode cX6_numbersOf 25 = .ok (.iconst 2, 1) := by decide +kernel
theorem dX6_numbersOf_26 : decode cX6_numbersOf 26 = .ok (.goto 4, 3) := by decide +kernel
theorem dX6_numbersOf_29 : decode cX6_numbersOf 29 = .ok (.iconst 5, 1) := by decide +kernel
theorem dX6_numbersOf_30 : decode cX6_numbersOf 30 = .ok (.ireturn, 1) := by decide +kernel
theorem dX6_readsNumber_0 : decode cX6_readsNumber 0 = .ok (.aload_n 0, 1) := by decide +kernel
theorem dX6_readsNumber_1 : decode cX6_readsNumber 1 = .ok (.getfield 84, 3) := by decide +kernel
theorem dX6_readsNumber_4 : decode cX6_readsNumber 4 = .ok (.istore_n 3, 1) := by decide +kernel
theorem dX6_readsNumber_5 : decode cX6_readsNumber 5 = .ok (.aload_n 0, 1) := by decide +kernel
theorem dX6_readsNumber_6 : decode cX6_readsNumber 6 = .ok (.invokevirtual 87, 3) := by decide +kernel
theorem dX6_readsNumber_9 : decode cX6_readsNumber 9 = .ok (.bipush 48, 2) := by decide +kernel
theorem dX6_readsNumber_11 : decode cX6_readsNumber 11 = .ok (.isub, 1) := by decide +kernel
theorem dX6_readsNumber_12 : decode cX6_readsNumber 12 = .ok (.istore 4, 2) := by decide +kernel
theorem dX6_readsNumber_14 : decode cX6_readsNumber 14 = .ok (.aload_n 0, 1) := by decide +kernel
theorem dX6_readsNumber_15 : decode cX6_readsNumber 15 = .ok (.dup, 1) := by decide +kernel
theorem dX6_readsNumber_16 : decode cX6_readsNumber 16 = .ok (.getfield 84, 3) := by decide +kernel
theorem dX6_readsNumber_19 : decode cX6_readsNumber 19 = .ok (.iconst 1, 1) := by decide +kernel
theorem dX6_readsNumber_20 : decode cX6_readsNumber 20 = .ok (.iadd, 1) := by decide +kernel
theorem dX6_readsNumber_21 : decode cX6_readsNumber 21 = .ok (.putfield 84, 3) := by decide +kernel
theorem dX6_readsNumber_24 : decode cX6_readsNumber 24 = .ok (.aload_n 0, 1) := by decide +kernel
theorem dX6_readsNumber_25 : decode cX6_readsNumber 25 = .ok (.invokevirtual 87, 3) := by decide +kernel
theorem dX6_readsNumber_28 : decode cX6_readsNumber 28 = .ok (.bipush 48, 2) := by decide +kernel
theorem dX6_readsNumber_30 : decode cX6_readsNumber 30 = .ok (.bipush 57, 2) := by decide +kernel
theorem dX6_readsNumber_32 : decode cX6_readsNumber 32 = .ok (.invokestatic 69, 3) := by decide +kernel
theorem dX6_readsNumber_35 : decode cX6_readsNumber 35 = .ok (.ifCond .eq 28, 3) := by decide +kernel
theorem dX6_readsNumber_38 : decode cX6_readsNumber 38 = .ok (.bipush 10, 2) := by decide +kernel
theorem dX6_readsNumber_40 : decode cX6_readsNumber 40 = .ok (.iload 4, 2) := by decide +kernel
theorem dX6_readsNumber_42 : decode cX6_readsNumber 42 = .ok (.imul, 1) := by decide +kernel
theorem dX6_readsNumber_43 : decode cX6_readsNumber 43 = .ok (.aload_n 0, 1) := by decide +kernel
theorem dX6_readsNumber_44 : decode cX6_readsNumber 44 = .ok (.invokevirtual 87, 3) := by decide +kernel
theorem dX6_readsNumber_47 : decode cX6_readsNumber 47 = .ok (.iadd, 1) := by decide +kernel
theorem dX6_readsNumber_48 : decode cX6_readsNumber 48 = .ok (.bipush 48, 2) := by decide +kernel
theorem dX6_readsNumber_50 : decode cX6_readsNumber 50 = .ok (.isub, 1) := by decide +kernel
theorem dX6_readsNumber_51 : decode cX6_readsNumber 51 = .ok (.istore 4, 2) := by decide +kernel
theorem dX6_readsNumber_53 : decode cX6_readsNumber 53 = .ok (.aload_n 0, 1) := by decide +kernel
theorem dX6_readsNumber_54 : decode cX6_readsNumber 54 = .ok (.dup, 1) := by decide +kernel
theorem dX6_readsNumber_55 : decode cX6_readsNumber 55 = .ok (.getfield 84, 3) := by decide +kernel
theorem dX6_readsNumber_58 : decode cX6_readsNumber 58 = .ok (.iconst 1, 1) := by decide +kernel
theorem dX6_readsNumber_59 : decode cX6_readsNumber 59 = .ok (.iadd, 1) := by decide +kernel
theorem dX6_readsNumber_60 : decode cX6_readsNumber 60 = .ok (.putfield 84, 3) := by decide +kernel
theorem dX6_readsNumber_63 : decode cX6_readsNumber 63 = .ok (.aload_n 0, 1) := by decide +kernel
theorem dX6_readsNumber_64 : decode cX6_readsNumber 64 = .ok (.invokevirtual 87, 3) := by decide +kernel
theorem dX6_readsNumber_67 : decode cX6_readsNumber 67 = .ok (.bipush 48, 2) := by decide +kernel
theorem dX6_readsNumber_69 : decode cX6_readsNumber 69 = .ok (.bipush 57, 2) := by decide +kernel
theorem dX6_readsNumber_71 : decode cX6_readsNumber 71 = .ok (.invokestatic 69, 3) := by decide +kernel
theorem dX6_readsNumber_74 : decode cX6_readsNumber 74 = .ok (.ifCond .eq 15, 3) := by decide +kernel
theorem dX6_readsNumber_77 : decode cX6_readsNumber 77 = .ok (.aload_n 0, 1) := by decide +kernel
theorem dX6_readsNumber_78 : decode cX6_readsNumber 78 = .ok (.iconst 1, 1) := by decide +kernel
theorem dX6_readsNumber_79 : decode cX6_readsNumber 79 = .ok (.aload_n 0, 1) := by decide +kernel
theorem dX6_readsNumber_80 : decode cX6_readsNumber 80 = .ok (.getfield 84, 3) := by decide +kernel
theorem dX6_readsNumber_83 : decode cX6_readsNumber 83 = .ok (.invokevirtual 97, 3) := by decide +kernel
theorem dX6_readsNumber_86 : decode cX6_readsNumber 86 = .ok (.goto 39, 3) := by decide +kernel
theorem dX6_readsNumber_89 : decode cX6_readsNumber 89 = .ok (.iload_n 2, 1) := by decide +kernel
theorem dX6_readsNumber_90 : decode cX6_readsNumber 90 = .ok (.iload_n 1, 1) := by decide +kernel
theorem dX6_readsNumber_91 : decode cX6_readsNumber 91 = .ok (.invokestatic 101, 3) := by decide +kernel
theorem dX6_readsNumber_94 : decode cX6_readsNumber 94 = .ok (.if_icmp .eq 12, 3) := by decide +kernel
theorem dX6_readsNumber_97 : decode cX6_readsNumber 97 = .ok (.iload_n 1, 1) := by decide +kernel
theorem dX6_readsNumber_98 : decode cX6_readsNumber 98 = .ok (.iload 4, 2) := by decide +kernel
theorem dX6_readsNumber_100 : decode cX6_readsNumber 100 = .ok (.invokestatic 73, 3) := by decide +kernel
theorem dX6_readsNumber_103 : decode cX6_readsNumber 103 = .ok (.ifCond .ne 12, 3) := by decide +kernel
theorem dX6_readsNumber_106 : decode cX6_readsNumber 106 = .ok (.aload_n 0, 1) := by decide +kernel
theorem dX6_readsNumber_107 : decode cX6_readsNumber 107 = .ok (.iconst 2, 1) := by decide +kernel
theorem dX6_readsNumber_108 : decode cX6_readsNumber 108 = .ok (.iload_n 3, 1) := by decide +kernel
theorem dX6_readsNumber_109 : decode cX6_readsNumber 109 = .ok (.invokevirtual 97, 3) := by decide +kernel
theorem dX6_readsNumber_112 : decode cX6_readsNumber 112 = .ok (.goto 13, 3) := by decide +kernel
theorem dX6_readsNumber_115 : decode cX6_readsNumber 115 = .ok (.aload_n 0, 1) := by decide +kernel
theorem dX6_readsNumber_116 : decode cX6_readsNumber 116 = .ok (.getfield 23, 3) := by decide +kernel
theorem dX6_readsNumber_119 : decode cX6_readsNumber 119 = .ok (.iload_n 1, 1) := by decide +kernel
theorem dX6_readsNumber_120 : decode cX6_readsNumber 120 = .ok (.iload_n 2, 1) := by decide +kernel
theorem dX6_readsNumber_121 : decode cX6_readsNumber 121 = .ok (.iadd, 1) := by decide +kernel
theorem dX6_readsNumber_122 : decode cX6_readsNumber 122 = .ok (.iload 4, 2) := by decide +kernel
theorem dX6_readsNumber_124 : decode cX6_readsNumber 124 = .ok (.iastore, 1) := by decide +kernel
theorem dX6_readsNumber_125 : decode cX6_readsNumber 125 = .ok (.return_, 1) := by decide +kernel
theorem dX6_ends_0 : decode cX6_ends 0 = .ok (.iconst 0, 1) := by decide +kernel
theorem dX6_ends_1 : decode cX6_ends 1 = .ok (.istore_n 3, 1) := by decide +kernel
theorem dX6_ends_2 : decode cX6_ends 2 = .ok (.iconst 0, 1) := by decide +kernel
theorem dX6_ends_3 : decode cX6_ends 3 = .ok (.istore 4, 2) := by decide +kernel
theorem dX6_ends_5 : decode cX6_ends 5 = .ok (.iload 4, 2) := by decide +kernel
theorem dX6_ends_7 : decode cX6_ends 7 = .ok (.iconst 5, 1) := by decide +kernel
theorem dX6_ends_8 : decode cX6_ends 8 = .ok (.if_icmp .ge 22, 3) := by decide +kernel
theorem dX6_ends_11 : decode cX6_ends 11 = .ok (.iload_n 3, 1) := by decide +kernel
theorem dX6_ends_12 : decode cX6_ends 12 = .ok (.aload_n 0, 1) := by decide +kernel
theorem dX6_ends_13 : decode cX6_ends 13 = .ok (.getfield 23, 3) := by decide +kernel
theorem dX6_ends_16 : decode cX6_ends 16 = .ok (.bipush 15, 2) := by decide +kernel
theorem dX6_ends_18 : decode cX6_ends 18 = .ok (.iload 4, 2) := by decide +kernel
theorem dX6_ends_20 : decode cX6_ends 20 = .ok (.iadd, 1) := by decide +kernel
theorem dX6_ends_21 : decode cX6_ends 21 = .ok (.iaload, 1) := by decide +kernel
theorem dX6_ends_22 : decode cX6_ends 22 = .ok (.iadd, 1) := by decide +kernel
theorem dX6_ends_23 : decode cX6_ends 23 = .ok (.istore_n 3, 1) := by decide +kernel
theorem dX6_ends_24 : decode cX6_ends 24 = .ok (.iinc 4 1, 3) := by decide +kernel
theorem dX6_ends_27 : decode cX6_ends 27 = .ok (.goto (-22), 3) := by decide +kernel
theorem dX6_ends_30 : decode cX6_ends 30 = .ok (.iload_n 1, 1) := by decide +kernel
theorem dX6_ends_31 : decode cX6_ends 31 = .ok (.iconst 3, 1) := by decide +kernel
theorem dX6_ends_32 : decode cX6_ends 32 = .ok (.if_icmp .ne 15, 3) := by decide +kernel
theorem dX6_ends_35 : decode cX6_ends 35 = .ok (.iload_n 2, 1) := by decide +kernel
theorem dX6_ends_36 : decode cX6_ends 36 = .ok (.ifCond .ne 7, 3) := by decide +kernel
theorem dX6_ends_39 : decode cX6_ends 39 = .ok (.iconst 1, 1) := by decide +kernel
theorem dX6_ends_40 : decode cX6_ends 40 = .ok (.goto 20, 3) := by decide +kernel
theorem dX6_ends_43 : decode cX6_ends 43 = .ok (.iconst 0, 1) := by decide +kernel
theorem dX6_ends_44 : decode cX6_ends 44 = .ok (.goto 16, 3) := by decide +kernel
theorem dX6_ends_47 : decode cX6_ends 47 = .ok (.iload_n 2, 1) := by decide +kernel
theorem dX6_ends_48 : decode cX6_ends 48 = .ok (.iload_n 1, 1) := by decide +kernel
theorem dX6_ends_49 : decode cX6_ends 49 = .ok (.invokestatic 101, 3) := by decide +kernel
theorem dX6_ends_52 : decode cX6_ends 52 = .ok (.if_icmp .ge 7, 3) := by decide +kernel
theorem dX6_ends_55 : decode cX6_ends 55 = .ok (.iconst 1, 1) := by decide +kernel
theorem dX6_ends_56 : decode cX6_ends 56 = .ok (.goto 4, 3) := by decide +kernel
theorem dX6_ends_59 : decode cX6_ends 59 = .ok (.iconst 0, 1) := by decide +kernel
theorem dX6_ends_60 : decode cX6_ends 60 = .ok (.istore 4, 2) := by decide +kernel
theorem dX6_ends_62 : decode cX6_ends 62 = .ok (.iload 4, 2) := by decide +kernel
theorem dX6_ends_64 : decode cX6_ends 64 = .ok (.ifCond .ne 15, 3) := by decide +kernel
theorem dX6_ends_67 : decode cX6_ends 67 = .ok (.iload_n 1, 1) := by decide +kernel
theorem dX6_ends_68 : decode cX6_ends 68 = .ok (.bipush 15, 2) := by decide +kernel
theorem dX6_ends_70 : decode cX6_ends 70 = .ok (.if_icmp .ne 18, 3) := by decide +kernel
theorem dX6_ends_73 : decode cX6_ends 73 = .ok (.iload_n 3, 1) := by decide +kernel
theorem dX6_ends_74 : decode cX6_ends 74 = .ok (.bipush 10, 2) := by decide +kernel
theorem dX6_ends_76 : decode cX6_ends 76 = .ok (.if_icmp .eq 12, 3) := by decide +kernel
theorem dX6_ends_79 : decode cX6_ends 79 = .ok (.aload_n 0, 1) := by decide +kernel
theorem dX6_ends_80 : decode cX6_ends 80 = .ok (.iconst 3, 1) := by decide +kernel
theorem dX6_ends_81 : decode cX6_ends 81 = .ok (.aload_n 0, 1) := by decide +kernel
theorem dX6_ends_82 : decode cX6_ends 82 = .ok (.getfield 84, 3) := by decide +kernel
theorem dX6_ends_85 : decode cX6_ends 85 = .ok (.invokevirtual 97, 3) := by decide +kernel
theorem dX6_ends_88 : decode cX6_ends 88 = .ok (.iload_n 2, 1) := by decide +kernel
theorem dX6_ends_89 : decode cX6_ends 89 = .ok (.istore 5, 2) := by decide +kernel
theorem dX6_ends_91 : decode cX6_ends 91 = .ok (.iload 5, 2) := by decide +kernel
theorem dX6_ends_93 : decode cX6_ends 93 = .ok (.bipush 7, 2) := by decide +kernel
theorem dX6_ends_95 : decode cX6_ends 95 = .ok (.if_icmp .ge 24, 3) := by decide +kernel
theorem dX6_ends_98 : decode cX6_ends 98 = .ok (.iload_n 1, 1) := by decide +kernel
theorem dX6_ends_99 : decode cX6_ends 99 = .ok (.iconst 3, 1) := by decide +kernel
theorem dX6_ends_100 : decode cX6_ends 100 = .ok (.if_icmp .ne 19, 3) := by decide +kernel
theorem dX6_ends_103 : decode cX6_ends 103 = .ok (.aload_n 0, 1) := by decide +kernel
theorem dX6_ends_104 : decode cX6_ends 104 = .ok (.getfield 23, 3) := by decide +kernel
theorem dX6_ends_107 : decode cX6_ends 107 = .ok (.iconst 3, 1) := by decide +kernel
theorem dX6_ends_108 : decode cX6_ends 108 = .ok (.iload 5, 2) := by decide +kernel
theorem dX6_ends_110 : decode cX6_ends 110 = .ok (.iadd, 1) := by decide +kernel
theorem dX6_ends_111 : decode cX6_ends 111 = .ok (.iconst 0, 1) := by decide +kernel
theorem dX6_ends_112 : decode cX6_ends 112 = .ok (.iastore, 1) := by decide +kernel
theorem dX6_ends_113 : decode cX6_ends 113 = .ok (.iinc 5 1, 3) := by decide +kernel
theorem dX6_ends_116 : decode cX6_ends 116 = .ok (.goto (-25), 3) := by decide +kernel
theorem dX6_ends_119 : decode cX6_ends 119 = .ok (.aload_n 0, 1) := by decide +kernel
theorem dX6_ends_120 : decode cX6_ends 120 = .ok (.dup, 1) := by decide +kernel
theorem dX6_ends_121 : decode cX6_ends 121 = .ok (.getfield 84, 3) := by decide +kernel
theorem dX6_ends_124 : decode cX6_ends 124 = .ok (.iconst 1, 1) := by decide +kernel
theorem dX6_ends_125 : decode cX6_ends 125 = .ok (.iadd, 1) := by decide +kernel
theorem dX6_ends_126 : decode cX6_ends 126 = .ok (.putfield 84, 3) := by decide +kernel
theorem dX6_ends_129 : decode cX6_ends 129 = .ok (.return_, 1) := by decide +kernel
theorem dX6_readsItem_0 : decode cX6_readsItem 0 = .ok (.aload_n 0, 1) := by decide +kernel
theorem dX6_readsItem_1 : decode cX6_readsItem 1 = .ok (.invokevirtual 87, 3) := by decide +kernel
theorem dX6_readsItem_4 : decode cX6_readsItem 4 = .ok (.invokestatic 104, 3) := by decide +kernel
theorem dX6_readsItem_7 : decode cX6_readsItem 7 = .ok (.istore_n 1, 1) := by decide +kernel
theorem dX6_readsItem_8 : decode cX6_readsItem 8 = .ok (.iload_n 1, 1) := by decide +kernel
theorem dX6_readsItem_9 : decode cX6_readsItem 9 = .ok (.bipush (-9), 2) := by decide +kernel
theorem dX6_readsItem_11 : decode cX6_readsItem 11 = .ok (.if_icmp .ne 13, 3) := by decide +kernel
theorem dX6_readsItem_14 : decode cX6_readsItem 14 = .ok (.aload_n 0, 1) := by decide +kernel
theorem dX6_readsItem_15 : decode cX6_readsItem 15 = .ok (.iconst 1, 1) := by decide +kernel
theorem dX6_readsItem_16 : decode cX6_readsItem 16 = .ok (.aload_n 0, 1) := by decide +kernel
theorem dX6_readsItem_17 : decode cX6_readsItem 17 = .ok (.getfield 84, 3) := by decide +kernel
theorem dX6_readsItem_20 : decode cX6_readsItem 20 = .ok (.invokevirtual 97, 3) := by decide +kernel
theorem dX6_readsItem_23 : decode cX6_readsItem 23 = .ok (.return_, 1) := by decide +kernel
theorem dX6_readsItem_24 : decode cX6_readsItem 24 = .ok (.aload_n 0, 1) := by decide +kernel
theorem dX6_readsItem_25 : decode cX6_readsItem 25 = .ok (.dup, 1) := by decide +kernel
theorem dX6_readsItem_26 : decode cX6_readsItem 26 = .ok (.getfield 84, 3) := by decide +kernel
theorem dX6_readsItem_29 : decode cX6_readsItem 29 = .ok (.iconst 1, 1) := by decide +kernel
theorem dX6_readsItem_30 : decode cX6_readsItem 30 = .ok (.iadd, 1) := by decide +kernel
theorem dX6_readsItem_31 : decode cX6_readsItem 31 = .ok (.putfield 84, 3) := by decide +kernel
theorem dX6_readsItem_34 : decode cX6_readsItem 34 = .ok (.iconst 0, 1) := by decide +kernel
theorem dX6_readsItem_35 : decode cX6_readsItem 35 = .ok (.istore_n 2, 1) := by decide +kernel
theorem dX6_readsItem_36 : decode cX6_readsItem 36 = .ok (.aload_n 0, 1) := by decide +kernel
theorem dX6_readsItem_37 : decode cX6_readsItem 37 = .ok (.invokevirtual 107, 3) := by decide +kernel
theorem dX6_readsItem_40 : decode cX6_readsItem 40 = .ok (.aload_n 0, 1) := by decide +kernel
theorem dX6_readsItem_41 : decode cX6_readsItem 41 = .ok (.getfield 91, 3) := by decide +kernel
theorem dX6_readsItem_44 : decode cX6_readsItem 44 = .ok (.ifCond .ne 33, 3) := by decide +kernel
theorem dX6_readsItem_47 : decode cX6_readsItem 47 = .ok (.aload_n 0, 1) := by decide +kernel
theorem dX6_readsItem_48 : decode cX6_readsItem 48 = .ok (.invokevirtual 87, 3) := by decide +kernel
theorem dX6_readsItem_51 : decode cX6_readsItem 51 = .ok (.bipush 48, 2) := by decide +kernel
theorem dX6_readsItem_53 : decode cX6_readsItem 53 = .ok (.bipush 57, 2) := by decide +kernel
theorem dX6_readsItem_55 : decode cX6_readsItem 55 = .ok (.invokestatic 69, 3) := by decide +kernel
theorem dX6_readsItem_58 : decode cX6_readsItem 58 = .ok (.ifCond .eq 19, 3) := by decide +kernel
theorem dX6_readsItem_61 : decode cX6_readsItem 61 = .ok (.aload_n 0, 1) := by decide +kernel
theorem dX6_readsItem_62 : decode cX6_readsItem 62 = .ok (.iload_n 1, 1) := by decide +kernel
theorem dX6_readsItem_63 : decode cX6_readsItem 63 = .ok (.iload_n 2, 1) := by decide +kernel
theorem dX6_readsItem_64 : decode cX6_readsItem 64 = .ok (.invokevirtual 110, 3) := by decide +kernel
theorem dX6_readsItem_67 : decode cX6_readsItem 67 = .ok (.iinc 2 1, 3) := by decide +kernel
theorem dX6_readsItem_70 : decode cX6_readsItem 70 = .ok (.aload_n 0, 1) := by decide +kernel
theorem dX6_readsItem_71 : decode cX6_readsItem 71 = .ok (.invokevirtual 107, 3) := by decide +kernel
theorem dX6_readsItem_74 : decode cX6_readsItem 74 = .ok (.goto (-34), 3) := by decide +kernel
theorem dX6_readsItem_77 : decode cX6_readsItem 77 = .ok (.aload_n 0, 1) := by decide +kernel
theorem dX6_readsItem_78 : decode cX6_readsItem 78 = .ok (.invokevirtual 87, 3) := by decide +kernel
theorem dX6_readsItem_81 : decode cX6_readsItem 81 = .ok (.bipush 59, 2) := by decide +kernel
theorem dX6_readsItem_83 : decode cX6_readsItem 83 = .ok (.if_icmp .ne 12, 3) := by decide +kernel
theorem dX6_readsItem_86 : decode cX6_readsItem 86 = .ok (.aload_n 0, 1) := by decide +kernel
theorem dX6_readsItem_87 : decode cX6_readsItem 87 = .ok (.iload_n 1, 1) := by decide +kernel
theorem dX6_readsItem_88 : decode cX6_readsItem 88 = .ok (.iload_n 2, 1) := by decide +kernel
theorem dX6_readsItem_89 : decode cX6_readsItem 89 = .ok (.invokevirtual 113, 3) := by decide +kernel
theorem dX6_readsItem_92 : decode cX6_readsItem 92 = .ok (.goto 12, 3) := by decide +kernel
theorem dX6_readsItem_95 : decode cX6_readsItem 95 = .ok (.aload_n 0, 1) := by decide +kernel
theorem dX6_readsItem_96 : decode cX6_readsItem 96 = .ok (.iconst 1, 1) := by decide +kernel
theorem dX6_readsItem_97 : decode cX6_readsItem 97 = .ok (.aload_n 0, 1) := by decide +kernel
theorem dX6_readsItem_98 : decode cX6_readsItem 98 = .ok (.getfield 84, 3) := by decide +kernel
theorem dX6_readsItem_101 : decode cX6_readsItem 101 = .ok (.invokevirtual 97, 3) := by decide +kernel
theorem dX6_readsItem_104 : decode cX6_readsItem 104 = .ok (.return_, 1) := by decide +kernel
theorem dX6_load_0 : decode cX6_load 0 = .ok (.iconst 0, 1) := by decide +kernel
theorem dX6_load_1 : decode cX6_load 1 = .ok (.istore_n 1, 1) := by decide +kernel
theorem dX6_load_2 : decode cX6_load 2 = .ok (.iload_n 1, 1) := by decide +kernel
theorem dX6_load_3 : decode cX6_load 3 = .ok (.bipush 22, 2) := by decide +kernel
theorem dX6_load_5 : decode cX6_load 5 = .ok (.if_icmp .ge 21, 3) := by decide +kernel
theorem dX6_load_8 : decode cX6_load 8 = .ok (.aload_n 0, 1) := by decide +kernel
theorem dX6_load_9 : decode cX6_load 9 = .ok (.getfield 23, 3) := by decide +kernel
theorem dX6_load_12 : decode cX6_load 12 = .ok (.iload_n 1, 1) := by decide +kernel
theorem dX6_load_13 : decode cX6_load 13 = .ok (.aload_n 0, 1) := by decide +kernel
theorem dX6_load_14 : decode cX6_load 14 = .ok (.getfield 7, 3) := by decide +kernel
theorem dX6_load_17 : decode cX6_load 17 = .ok (.iload_n 1, 1) := by decide +kernel
theorem dX6_load_18 : decode cX6_load 18 = .ok (.iaload, 1) := by decide +kernel
theorem dX6_load_19 : decode cX6_load 19 = .ok (.iastore, 1) := by decide +kernel
theorem dX6_load_20 : decode cX6_load 20 = .ok (.iinc 1 1, 3) := by decide +kernel
theorem dX6_load_23 : decode cX6_load 23 = .ok (.goto (-21), 3) := by decide +kernel
theorem dX6_load_26 : decode cX6_load 26 = .ok (.aload_n 0, 1) := by decide +kernel
theorem dX6_load_27 : decode cX6_load 27 = .ok (.iconst 0, 1) := by decide +kernel
theorem dX6_load_28 : decode cX6_load 28 = .ok (.putfield 84, 3) := by decide +kernel
theorem dX6_load_31 : decode cX6_load 31 = .ok (.aload_n 0, 1) := by decide +kernel
theorem dX6_load_32 : decode cX6_load 32 = .ok (.iconst 0, 1) := by decide +kernel
theorem dX6_load_33 : decode cX6_load 33 = .ok (.putfield 91, 3) := by decide +kernel
theorem dX6_load_36 : decode cX6_load 36 = .ok (.iconst 0, 1) := by decide +kernel
theorem dX6_load_37 : decode cX6_load 37 = .ok (.istore_n 1, 1) := by decide +kernel
theorem dX6_load_38 : decode cX6_load 38 = .ok (.aload_n 0, 1) := by decide +kernel
theorem dX6_load_39 : decode cX6_load 39 = .ok (.invokevirtual 107, 3) := by decide +kernel
theorem dX6_load_42 : decode cX6_load 42 = .ok (.aload_n 0, 1) := by decide +kernel
theorem dX6_load_43 : decode cX6_load 43 = .ok (.getfield 91, 3) := by decide +kernel
theorem dX6_load_46 : decode cX6_load 46 = .ok (.ifCond .ne 28, 3) := by decide +kernel
theorem dX6_load_49 : decode cX6_load 49 = .ok (.aload_n 0, 1) := by decide +kernel
theorem dX6_load_50 : decode cX6_load 50 = .ok (.getfield 84, 3) := by decide +kernel
theorem dX6_load_53 : decode cX6_load 53 = .ok (.aload_n 0, 1) := by decide +kernel
theorem dX6_load_54 : decode cX6_load 54 = .ok (.getfield 81, 3) := by decide +kernel
theorem dX6_load_57 : decode cX6_load 57 = .ok (.if_icmp .ge 17, 3) := by decide +kernel
theorem dX6_load_60 : decode cX6_load 60 = .ok (.aload_n 0, 1) := by decide +kernel
theorem dX6_load_61 : decode cX6_load 61 = .ok (.invokevirtual 116, 3) := by decide +kernel
theorem dX6_load_64 : decode cX6_load 64 = .ok (.iinc 1 1, 3) := by decide +kernel
theorem dX6_load_67 : decode cX6_load 67 = .ok (.aload_n 0, 1) := by decide +kernel
theorem dX6_load_68 : decode cX6_load 68 = .ok (.invokevirtual 107, 3) := by decide +kernel
theorem dX6_load_71 : decode cX6_load 71 = .ok (.goto (-29), 3) := by decide +kernel
theorem dX6_load_74 : decode cX6_load 74 = .ok (.aload_n 0, 1) := by decide +kernel
theorem dX6_load_75 : decode cX6_load 75 = .ok (.getfield 91, 3) := by decide +kernel
theorem dX6_load_78 : decode cX6_load 78 = .ok (.ifCond .eq 11, 3) := by decide +kernel
theorem dX6_load_81 : decode cX6_load 81 = .ok (.bipush (-10), 2) := by decide +kernel
theorem dX6_load_83 : decode cX6_load 83 = .ok (.aload_n 0, 1) := by decide +kernel
theorem dX6_load_84 : decode cX6_load 84 = .ok (.getfield 94, 3) := by decide +kernel
theorem dX6_load_87 : decode cX6_load 87 = .ok (.isub, 1) := by decide +kernel
theorem dX6_load_88 : decode cX6_load 88 = .ok (.ireturn, 1) := by decide +kernel
theorem dX6_load_89 : decode cX6_load 89 = .ok (.aload_n 0, 1) := by decide +kernel
theorem dX6_load_90 : decode cX6_load 90 = .ok (.invokevirtual 59, 3) := by decide +kernel
theorem dX6_load_93 : decode cX6_load 93 = .ok (.iconst 0, 1) := by decide +kernel
theorem dX6_load_94 : decode cX6_load 94 = .ok (.istore_n 2, 1) := by decide +kernel
theorem dX6_load_95 : decode cX6_load 95 = .ok (.iload_n 2, 1) := by decide +kernel
theorem dX6_load_96 : decode cX6_load 96 = .ok (.bipush 22, 2) := by decide +kernel
theorem dX6_load_98 : decode cX6_load 98 = .ok (.if_icmp .ge 21, 3) := by decide +kernel
theorem dX6_load_101 : decode cX6_load 101 = .ok (.aload_n 0, 1) := by decide +kernel
theorem dX6_load_102 : decode cX6_load 102 = .ok (.getfield 7, 3) := by decide +kernel
theorem dX6_load_105 : decode cX6_load 105 = .ok (.iload_n 2, 1) := by decide +kernel
theorem dX6_load_106 : decode cX6_load 106 = .ok (.aload_n 0, 1) := by decide +kernel
theorem dX6_load_107 : decode cX6_load 107 = .ok (.getfield 23, 3) := by decide +kernel
theorem dX6_load_110 : decode cX6_load 110 = .ok (.iload_n 2, 1) := by decide +kernel
theorem dX6_load_111 : decode cX6_load 111 = .ok (.iaload, 1) := by decide +kernel
theorem dX6_load_112 : decode cX6_load 112 = .ok (.iastore, 1) := by decide +kernel
theorem dX6_load_113 : decode cX6_load 113 = .ok (.iinc 2 1, 3) := by decide +kernel
theorem dX6_load_116 : decode cX6_load 116 = .ok (.goto (-21), 3) := by decide +kernel
theorem dX6_load_119 : decode cX6_load 119 = .ok (.iload_n 1, 1) := by decide +kernel
theorem dX6_load_120 : decode cX6_load 120 = .ok (.ireturn, 1) := by decide +kernel
theorem dX6_faultKind_0 : decode cX6_faultKind 0 = .ok (.aload_n 0, 1) := by decide +kernel
theorem dX6_faultKind_1 : decode cX6_faultKind 1 = .ok (.getfield 91, 3) := by decide +kernel
theorem dX6_faultKind_4 : decode cX6_faultKind 4 = .ok (.ireturn, 1) := by decide +kernel
theorem dX6_divisor_0 : decode cX6_divisor 0 = .ok (.lload_n 0, 1) := by decide +kernel
theorem dX6_divisor_1 : decode cX6_divisor 1 = .ok (.lconst 0, 1) := by decide +kernel
theorem dX6_divisor_2 : decode cX6_divisor 2 = .ok (.lcmp, 1) := by decide +kernel
theorem dX6_divisor_3 : decode cX6_divisor 3 = .ok (.ifCond .ge 8, 3) := by decide +kernel
theorem dX6_divisor_6 : decode cX6_divisor 6 = .ok (.lload_n 0, 1) := by decide +kernel
theorem dX6_divisor_7 : decode cX6_divisor 7 = .ok (.lneg, 1) := by decide +kernel
theorem dX6_divisor_8 : decode cX6_divisor 8 = .ok (.goto 4, 3) := by decide +kernel
theorem dX6_divisor_11 : decode cX6_divisor 11 = .ok (.lload_n 0, 1) := by decide +kernel
theorem dX6_divisor_12 : decode cX6_divisor 12 = .ok (.lstore 4, 2) := by decide +kernel
theorem dX6_divisor_14 : decode cX6_divisor 14 = .ok (.lload_n 2, 1) := by decide +kernel
theorem dX6_divisor_15 : decode cX6_divisor 15 = .ok (.lstore 6, 2) := by decide +kernel
theorem dX6_divisor_17 : decode cX6_divisor 17 = .ok (.lload 6, 2) := by decide +kernel
theorem dX6_divisor_19 : decode cX6_divisor 19 = .ok (.lconst 0, 1) := by decide +kernel
theorem dX6_divisor_20 : decode cX6_divisor 20 = .ok (.lcmp, 1) := by decide +kernel
theorem dX6_divisor_21 : decode cX6_divisor 21 = .ok (.ifCond .le 21, 3) := by decide +kernel
theorem dX6_divisor_24 : decode cX6_divisor 24 = .ok (.lload 4, 2) := by decide +kernel
theorem dX6_divisor_26 : decode cX6_divisor 26 = .ok (.lload 6, 2) := by decide +kernel
theorem dX6_divisor_28 : decode cX6_divisor 28 = .ok (.lrem, 1) := by decide +kernel
theorem dX6_divisor_29 : decode cX6_divisor 29 = .ok (.lstore 8, 2) := by decide +kernel
theorem dX6_divisor_31 : decode cX6_divisor 31 = .ok (.lload 6, 2) := by decide +kernel
theorem dX6_divisor_33 : decode cX6_divisor 33 = .ok (.lstore 4, 2) := by decide +kernel
theorem dX6_divisor_35 : decode cX6_divisor 35 = .ok (.lload 8, 2) := by decide +kernel
theorem dX6_divisor_37 : decode cX6_divisor 37 = .ok (.lstore 6, 2) := by decide +kernel
theorem dX6_divisor_39 : decode cX6_divisor 39 = .ok (.goto (-22), 3) := by decide +kernel
theorem dX6_divisor_42 : decode cX6_divisor 42 = .ok (.lload 4, 2) := by decide +kernel
theorem dX6_divisor_44 : decode cX6_divisor 44 = .ok (.lreturn, 1) := by decide +kernel
theorem dX6_told_0 : decode cX6_told 0 = .ok (.lload_n 1, 1) := by decide +kernel
theorem dX6_told_1 : decode cX6_told 1 = .ok (.lload_n 3, 1) := by decide +kernel
theorem dX6_told_2 : decode cX6_told 2 = .ok (.invokestatic 119, 3) := by decide +kernel
theorem dX6_told_5 : decode cX6_told 5 = .ok (.lstore 5, 2) := by decide +kernel
theorem dX6_told_7 : decode cX6_told 7 = .ok (.aload_n 0, 1) := by decide +kernel
theorem dX6_told_8 : decode cX6_told 8 = .ok (.lload_n 3, 1) := by decide +kernel
theorem dX6_told_9 : decode cX6_told 9 = .ok (.lload 5, 2) := by decide +kernel
theorem dX6_told_11 : decode cX6_told 11 = .ok (.ldiv, 1) := by decide +kernel
theorem dX6_told_12 : decode cX6_told 12 = .ok (.putfield 16, 3) := by decide +kernel
theorem dX6_told_15 : decode cX6_told 15 = .ok (.lload_n 1, 1) := by decide +kernel
theorem dX6_told_16 : decode cX6_told 16 = .ok (.lload 5, 2) := by decide +kernel
theorem dX6_told_18 : decode cX6_told 18 = .ok (.ldiv, 1) := by decide +kernel
theorem dX6_told_19 : decode cX6_told 19 = .ok (.lreturn, 1) := by decide +kernel
theorem dX6_denominator_0 : decode cX6_denominator 0 = .ok (.aload_n 0, 1) := by decide +kernel
theorem dX6_denominator_1 : decode cX6_denominator 1 = .ok (.getfield 16, 3) := by decide +kernel
theorem dX6_denominator_4 : decode cX6_denominator 4 = .ok (.lreturn, 1) := by decide +kernel
theorem dX6_choose_0 : decode cX6_choose 0 = .ok (.iload_n 1, 1) := by decide +kernel
theorem dX6_choose_1 : decode cX6_choose 1 = .ok (.ifCond .lt 8, 3) := by decide +kernel
theorem dX6_choose_4 : decode cX6_choose 4 = .ok (.iload_n 1, 1) := by decide +kernel
theorem dX6_choose_5 : decode cX6_choose 5 = .ok (.iload_n 0, 1) := by decide +kernel
theorem dX6_choose_6 : decode cX6_choose 6 = .ok (.if_icmp .le 7, 3) := by decide +kernel
theorem dX6_choose_9 : decode cX6_choose 9 = .ok (.lconst 0, 1) := by decide +kernel
theorem dX6_choose_10 : decode cX6_choose 10 = .ok (.goto 4, 3) := by decide +kernel
theorem dX6_choose_13 : decode cX6_choose 13 = .ok (.lconst 1, 1) := by decide +kernel
theorem dX6_choose_14 : decode cX6_choose 14 = .ok (.lstore_n 2, 1) := by decide +kernel
theorem dX6_choose_15 : decode cX6_choose 15 = .ok (.iconst 0, 1) := by decide +kernel
theorem dX6_choose_16 : decode cX6_choose 16 = .ok (.istore 4, 2) := by decide +kernel
theorem dX6_choose_18 : decode cX6_choose 18 = .ok (.iload 4, 2) := by decide +kernel
theorem dX6_choose_20 : decode cX6_choose 20 = .ok (.iload_n 1, 1) := by decide +kernel
theorem dX6_choose_21 : decode cX6_choose 21 = .ok (.if_icmp .ge 29, 3) := by decide +kernel
theorem dX6_choose_24 : decode cX6_choose 24 = .ok (.lload_n 2, 1) := by decide +kernel
theorem dX6_choose_25 : decode cX6_choose 25 = .ok (.lconst 0, 1) := by decide +kernel
theorem dX6_choose_26 : decode cX6_choose 26 = .ok (.lcmp, 1) := by decide +kernel
theorem dX6_choose_27 : decode cX6_choose 27 = .ok (.ifCond .le 23, 3) := by decide +kernel
theorem dX6_choose_30 : decode cX6_choose 30 = .ok (.lload_n 2, 1) := by decide +kernel
theorem dX6_choose_31 : decode cX6_choose 31 = .ok (.iload_n 0, 1) := by decide +kernel
theorem dX6_choose_32 : decode cX6_choose 32 = .ok (.iload 4, 2) := by decide +kernel
theorem dX6_choose_34 : decode cX6_choose 34 = .ok (.isub, 1) := by decide +kernel
theorem dX6_choose_35 : decode cX6_choose 35 = .ok (.i2l, 1) := by decide +kernel
theorem dX6_choose_36 : decode cX6_choose 36 = .ok (.lmul, 1) := by decide +kernel
theorem dX6_choose_37 : decode cX6_choose 37 = .ok (.iload 4, 2) := by decide +kernel
theorem dX6_choose_39 : decode cX6_choose 39 = .ok (.iconst 1, 1) := by decide +kernel
theorem dX6_choose_40 : decode cX6_choose 40 = .ok (.iadd, 1) := by decide +kernel
theorem dX6_choose_41 : decode cX6_choose 41 = .ok (.i2l, 1) := by decide +kernel
theorem dX6_choose_42 : decode cX6_choose 42 = .ok (.ldiv, 1) := by decide +kernel
theorem dX6_choose_43 : decode cX6_choose 43 = .ok (.lstore_n 2, 1) := by decide +kernel
theorem dX6_choose_44 : decode cX6_choose 44 = .ok (.iinc 4 1, 3) := by decide +kernel
theorem dX6_choose_47 : decode cX6_choose 47 = .ok (.goto (-29), 3) := by decide +kernel
theorem dX6_choose_50 : decode cX6_choose 50 = .ok (.lload_n 2, 1) := by decide +kernel
theorem dX6_choose_51 : decode cX6_choose 51 = .ok (.lreturn, 1) := by decide +kernel
theorem dX6_worthOf_0 : decode cX6_worthOf 0 = .ok (.lconst 0, 1) := by decide +kernel
theorem dX6_worthOf_1 : decode cX6_worthOf 1 = .ok (.lstore_n 3, 1) := by decide +kernel
theorem dX6_worthOf_2 : decode cX6_worthOf 2 = .ok (.iload_n 2, 1) := by decide +kernel
theorem dX6_worthOf_3 : decode cX6_worthOf 3 = .ok (.istore 5, 2) := by decide +kernel
theorem dX6_worthOf_5 : decode cX6_worthOf 5 = .ok (.iload 5, 2) := by decide +kernel
theorem dX6_worthOf_7 : decode cX6_worthOf 7 = .ok (.aload_n 0, 1) := by decide +kernel
theorem dX6_worthOf_8 : decode cX6_worthOf 8 = .ok (.invokevirtual 123, 3) := by decide +kernel
theorem dX6_worthOf_11 : decode cX6_worthOf 11 = .ok (.iload_n 1, 1) := by decide +kernel
theorem dX6_worthOf_12 : decode cX6_worthOf 12 = .ok (.isub, 1) := by decide +kernel
theorem dX6_worthOf_13 : decode cX6_worthOf 13 = .ok (.iload_n 2, 1) := by decide +kernel
theorem dX6_worthOf_14 : decode cX6_worthOf 14 = .ok (.iadd, 1) := by decide +kernel
theorem dX6_worthOf_15 : decode cX6_worthOf 15 = .ok (.if_icmp .gt 49, 3) := by decide +kernel
theorem dX6_worthOf_18 : decode cX6_worthOf 18 = .ok (.lload_n 3, 1) := by decide +kernel
theorem dX6_worthOf_19 : decode cX6_worthOf 19 = .ok (.aload_n 0, 1) := by decide +kernel
theorem dX6_worthOf_20 : decode cX6_worthOf 20 = .ok (.getfield 7, 3) := by decide +kernel
theorem dX6_worthOf_23 : decode cX6_worthOf 23 = .ok (.iconst 3, 1) := by decide +kernel
theorem dX6_worthOf_24 : decode cX6_worthOf 24 = .ok (.iload 5, 2) := by decide +kernel
theorem dX6_worthOf_26 : decode cX6_worthOf 26 = .ok (.iadd, 1) := by decide +kernel
theorem dX6_worthOf_27 : decode cX6_worthOf 27 = .ok (.iconst 1, 1) := by decide +kernel
theorem dX6_worthOf_28 : decode cX6_worthOf 28 = .ok (.isub, 1) := by decide +kernel
theorem dX6_worthOf_29 : decode cX6_worthOf 29 = .ok (.iaload, 1) := by decide +kernel
theorem dX6_worthOf_30 : decode cX6_worthOf 30 = .ok (.i2l, 1) := by decide +kernel
theorem dX6_worthOf_31 : decode cX6_worthOf 31 = .ok (.iload 5, 2) := by decide +kernel
theorem dX6_worthOf_33 : decode cX6_worthOf 33 = .ok (.iconst 1, 1) := by decide +kernel
theorem dX6_worthOf_34 : decode cX6_worthOf 34 = .ok (.isub, 1) := by decide +kernel
theorem dX6_worthOf_35 : decode cX6_worthOf 35 = .ok (.iload_n 2, 1) := by decide +kernel
theorem dX6_worthOf_36 : decode cX6_worthOf 36 = .ok (.iconst 1, 1) := by decide +kernel
theorem dX6_worthOf_37 : decode cX6_worthOf 37 = .ok (.isub, 1) := by decide +kernel
theorem dX6_worthOf_38 : decode cX6_worthOf 38 = .ok (.invokestatic 126, 3) := by decide +kernel
theorem dX6_worthOf_41 : decode cX6_worthOf 41 = .ok (.lmul, 1) := by decide +kernel
theorem dX6_worthOf_42 : decode cX6_worthOf 42 = .ok (.aload_n 0, 1) := by decide +kernel
theorem dX6_worthOf_43 : decode cX6_worthOf 43 = .ok (.invokevirtual 123, 3) := by decide +kernel
theorem dX6_worthOf_46 : decode cX6_worthOf 46 = .ok (.iload 5, 2) := by decide +kernel
theorem dX6_worthOf_48 : decode cX6_worthOf 48 = .ok (.isub, 1) := by decide +kernel
theorem dX6_worthOf_49 : decode cX6_worthOf 49 = .ok (.iload_n 1, 1) := by decide +kernel
theorem dX6_worthOf_50 : decode cX6_worthOf 50 = .ok (.iload_n 2, 1) := by decide +kernel
theorem dX6_worthOf_51 : decode cX6_worthOf 51 = .ok (.isub, 1) := by decide +kernel
theorem dX6_worthOf_52 : decode cX6_worthOf 52 = .ok (.invokestatic 126, 3) := by decide +kernel
theorem dX6_worthOf_55 : decode cX6_worthOf 55 = .ok (.lmul, 1) := by decide +kernel
theorem dX6_worthOf_56 : decode cX6_worthOf 56 = .ok (.ladd, 1) := by decide +kernel
theorem dX6_worthOf_57 : decode cX6_worthOf 57 = .ok (.lstore_n 3, 1) := by decide +kernel
theorem dX6_worthOf_58 : decode cX6_worthOf 58 = .ok (.iinc 5 1, 3) := by decide +kernel
theorem dX6_worthOf_61 : decode cX6_worthOf 61 = .ok (.goto (-56), 3) := by decide +kernel
theorem dX6_worthOf_64 : decode cX6_worthOf 64 = .ok (.lload_n 3, 1) := by decide +kernel
theorem dX6_worthOf_65 : decode cX6_worthOf 65 = .ok (.ldc2_w 130, 3) := by decide +kernel
theorem dX6_worthOf_68 : decode cX6_worthOf 68 = .ok (.aload_n 0, 1) := by decide +kernel
theorem dX6_worthOf_69 : decode cX6_worthOf 69 = .ok (.invokevirtual 123, 3) := by decide +kernel
theorem dX6_worthOf_72 : decode cX6_worthOf 72 = .ok (.iload_n 1, 1) := by decide +kernel
theorem dX6_worthOf_73 : decode cX6_worthOf 73 = .ok (.invokestatic 126, 3) := by decide +kernel
theorem dX6_worthOf_76 : decode cX6_worthOf 76 = .ok (.ldiv, 1) := by decide +kernel
theorem dX6_worthOf_77 : decode cX6_worthOf 77 = .ok (.lmul, 1) := by decide +kernel
theorem dX6_worthOf_78 : decode cX6_worthOf 78 = .ok (.lreturn, 1) := by decide +kernel
theorem dX6_at_0 : decode cX6_at 0 = .ok (.iconst 4, 1) := by decide +kernel
theorem dX6_at_1 : decode cX6_at 1 = .ok (.iload_n 0, 1) := by decide +kernel
theorem dX6_at_2 : decode cX6_at 2 = .ok (.imul, 1) := by decide +kernel
theorem dX6_at_3 : decode cX6_at 3 = .ok (.iload_n 1, 1) := by decide +kernel
theorem dX6_at_4 : decode cX6_at 4 = .ok (.iadd, 1) := by decide +kernel
theorem dX6_at_5 : decode cX6_at 5 = .ok (.ireturn, 1) := by decide +kernel
theorem dX6_findsRanks_0 : decode cX6_findsRanks 0 = .ok (.aload_n 0, 1) := by decide +kernel
theorem dX6_findsRanks_1 : decode cX6_findsRanks 1 = .ok (.invokevirtual 123, 3) := by decide +kernel
theorem dX6_findsRanks_4 : decode cX6_findsRanks 4 = .ok (.iconst 1, 1) := by decide +kernel
theorem dX6_findsRanks_5 : decode cX6_findsRanks 5 = .ok (.iadd, 1) := by decide +kernel
theorem dX6_findsRanks_6 : decode cX6_findsRanks 6 = .ok (.istore_n 1, 1) := by decide +kernel
theorem dX6_findsRanks_7 : decode cX6_findsRanks 7 = .ok (.iload_n 1, 1) := by decide +kernel
theorem dX6_findsRanks_8 : decode cX6_findsRanks 8 = .ok (.ifCond .le 116, 3) := by decide +kernel
theorem dX6_findsRanks_11 : decode cX6_findsRanks 11 = .ok (.iconst 1, 1) := by decide +kernel
theorem dX6_findsRanks_12 : decode cX6_findsRanks 12 = .ok (.istore_n 2, 1) := by decide +kernel
theorem dX6_findsRanks_13 : decode cX6_findsRanks 13 = .ok (.iload_n 2, 1) := by decide +kernel
theorem dX6_findsRanks_14 : decode cX6_findsRanks 14 = .ok (.iload_n 1, 1) := by decide +kernel
theorem dX6_findsRanks_15 : decode cX6_findsRanks 15 = .ok (.if_icmp .gt 34, 3) := by decide +kernel
theorem dX6_findsRanks_18 : decode cX6_findsRanks 18 = .ok (.iload_n 1, 1) := by decide +kernel
theorem dX6_findsRanks_19 : decode cX6_findsRanks 19 = .ok (.aload_n 0, 1) := by decide +kernel
theorem dX6_findsRanks_20 : decode cX6_findsRanks 20 = .ok (.invokevirtual 123, 3) := by decide +kernel
theorem dX6_findsRanks_23 : decode cX6_findsRanks 23 = .ok (.if_icmp .gt 26, 3) := by decide +kernel
theorem dX6_findsRanks_26 : decode cX6_findsRanks 26 = .ok (.aload_n 0, 1) := by decide +kernel
theorem dX6_findsRanks_27 : decode cX6_findsRanks 27 = .ok (.getfield 26, 3) := by decide +kernel
theorem dX6_findsRanks_30 : decode cX6_findsRanks 30 = .ok (.bipush 8, 2) := by decide +kernel
theorem dX6_findsRanks_32 : decode cX6_findsRanks 32 = .ok (.iload_n 1, 1) := by decide +kernel
theorem dX6_findsRanks_33 : decode cX6_findsRanks 33 = .ok (.imul, 1) := by decide +kernel
theorem dX6_findsRanks_34 : decode cX6_findsRanks 34 = .ok (.iload_n 2, 1) := by decide +kernel
theorem dX6_findsRanks_35 : decode cX6_findsRanks 35 = .ok (.iadd, 1) := by decide +kernel
theorem dX6_findsRanks_36 : decode cX6_findsRanks 36 = .ok (.aload_n 0, 1) := by decide +kernel
theorem dX6_findsRanks_37 : decode cX6_findsRanks 37 = .ok (.iload_n 1, 1) := by decide +kernel
theorem dX6_findsRanks_38 : decode cX6_findsRanks 38 = .ok (.iload_n 2, 1) := by decide +kernel
theorem dX6_findsRanks_39 : decode cX6_findsRanks 39 = .ok (.invokevirtual 132, 3) := by decide +kernel
theorem dX6_findsRanks_42 : decode cX6_findsRanks 42 = .ok (.lastore, 1) := by decide +kernel
theorem dX6_findsRanks_43 : decode cX6_findsRanks 43 = .ok (.iinc 2 1, 3) := by decide +kernel
theorem dX6_findsRanks_46 : decode cX6_findsRanks 46 = .ok (.goto (-33), 3) := by decide +kernel
theorem dX6_findsRanks_49 : decode cX6_findsRanks 49 = .ok (.iconst 0, 1) := by decide +kernel
theorem dX6_findsRanks_50 : decode cX6_findsRanks 50 = .ok (.istore_n 2, 1) := by decide +kernel
theorem dX6_findsRanks_51 : decode cX6_findsRanks 51 = .ok (.iload_n 2, 1) := by decide +kernel
theorem dX6_findsRanks_52 : decode cX6_findsRanks 52 = .ok (.iconst 3, 1) := by decide +kernel
theorem dX6_findsRanks_53 : decode cX6_findsRanks 53 = .ok (.if_icmp .gt 65, 3) := by decide +kernel
theorem dX6_findsRanks_56 : decode cX6_findsRanks 56 = .ok (.iload_n 2, 1) := by decide +kernel
theorem dX6_findsRanks_57 : decode cX6_findsRanks 57 = .ok (.ifCond .eq 11, 3) := by decide +kernel
theorem dX6_findsRanks_60 : decode cX6_findsRanks 60 = .ok (.iload_n 1, 1) := by decide +kernel
theorem dX6_findsRanks_61 : decode cX6_findsRanks 61 = .ok (.aload_n 0, 1) := by decide +kernel
theorem dX6_findsRanks_62 : decode cX6_findsRanks 62 = .ok (.invokevirtual 123, 3) := by decide +kernel
theorem dX6_findsRanks_65 : decode cX6_findsRanks 65 = .ok (.if_icmp .le 7, 3) := by decide +kernel
theorem dX6_findsRanks_68 : decode cX6_findsRanks 68 = .ok (.lconst 0, 1) := by decide +kernel
theorem dX6_findsRanks_69 : decode cX6_findsRanks 69 = .ok (.goto 21, 3) := by decide +kernel
theorem dX6_findsRanks_72 : decode cX6_findsRanks 72 = .ok (.aload_n 0, 1) := by decide +kernel
theorem dX6_findsRanks_73 : decode cX6_findsRanks 73 = .ok (.iload_n 1, 1) := by decide +kernel
theorem dX6_findsRanks_74 : decode cX6_findsRanks 74 = .ok (.iload_n 2, 1) := by decide +kernel
theorem dX6_findsRanks_75 : decode cX6_findsRanks 75 = .ok (.invokevirtual 135, 3) := by decide +kernel
theorem dX6_findsRanks_78 : decode cX6_findsRanks 78 = .ok (.ldc2_w 130, 3) := by decide +kernel
theorem dX6_findsRanks_81 : decode cX6_findsRanks 81 = .ok (.aload_n 0, 1) := by decide +kernel
theorem dX6_findsRanks_82 : decode cX6_findsRanks 82 = .ok (.getfield 7, 3) := by decide +kernel
theorem dX6_findsRanks_85 : decode cX6_findsRanks 85 = .ok (.iconst 2, 1) := by decide +kernel
theorem dX6_findsRanks_86 : decode cX6_findsRanks 86 = .ok (.iaload, 1) := by decide +kernel
theorem dX6_findsRanks_87 : decode cX6_findsRanks 87 = .ok (.i2l, 1) := by decide +kernel
theorem dX6_findsRanks_88 : decode cX6_findsRanks 88 = .ok (.lmul, 1) := by decide +kernel
theorem dX6_findsRanks_89 : decode cX6_findsRanks 89 = .ok (.lsub, 1) := by decide +kernel
theorem dX6_findsRanks_90 : decode cX6_findsRanks 90 = .ok (.lstore_n 3, 1) := by decide +kernel
theorem dX6_findsRanks_91 : decode cX6_findsRanks 91 = .ok (.aload_n 0, 1) := by decide +kernel
theorem dX6_findsRanks_92 : decode cX6_findsRanks 92 = .ok (.getfield 30, 3) := by decide +kernel
theorem dX6_findsRanks_95 : decode cX6_findsRanks 95 = .ok (.iload_n 1, 1) := by decide +kernel
theorem dX6_findsRanks_96 : decode cX6_findsRanks 96 = .ok (.iload_n 2, 1) := by decide +kernel
theorem dX6_findsRanks_97 : decode cX6_findsRanks 97 = .ok (.invokestatic 138, 3) := by decide +kernel
theorem dX6_findsRanks_100 : decode cX6_findsRanks 100 = .ok (.lload_n 3, 1) := by decide +kernel
theorem dX6_findsRanks_101 : decode cX6_findsRanks 101 = .ok (.lconst 0, 1) := by decide +kernel
theorem dX6_findsRanks_102 : decode cX6_findsRanks 102 = .ok (.lcmp, 1) := by decide +kernel
theorem dX6_findsRanks_103 : decode cX6_findsRanks 103 = .ok (.ifCond .le 7, 3) := by decide +kernel
theorem dX6_findsRanks_106 : decode cX6_findsRanks 106 = .ok (.lload_n 3, 1) := by decide +kernel
theorem dX6_findsRanks_107 : decode cX6_findsRanks 107 = .ok (.goto 4, 3) := by decide +kernel
theorem dX6_findsRanks_110 : decode cX6_findsRanks 110 = .ok (.lconst 0, 1) := by decide +kernel
theorem dX6_findsRanks_111 : decode cX6_findsRanks 111 = .ok (.lastore, 1) := by decide +kernel
theorem dX6_findsRanks_112 : decode cX6_findsRanks 112 = .ok (.iinc 2 1, 3) := by decide +kernel
theorem dX6_findsRanks_115 : decode cX6_findsRanks 115 = .ok (.goto (-64), 3) := by decide +kernel
theorem dX6_findsRanks_118 : decode cX6_findsRanks 118 = .ok (.iinc 1 (-1), 3) := by decide +kernel
theorem dX6_findsRanks_121 : decode cX6_findsRanks 121 = .ok (.goto (-114), 3) := by decide +kernel
theorem dX6_findsRanks_124 : decode cX6_findsRanks 124 = .ok (.return_, 1) := by decide +kernel
theorem dX6_meanAt_0 : decode cX6_meanAt 0 = .ok (.lconst 0, 1) := by decide +kernel
theorem dX6_meanAt_1 : decode cX6_meanAt 1 = .ok (.lstore_n 3, 1) := by decide +kernel
theorem dX6_meanAt_2 : decode cX6_meanAt 2 = .ok (.iconst 1, 1) := by decide +kernel
theorem dX6_meanAt_3 : decode cX6_meanAt 3 = .ok (.istore 5, 2) := by decide +kernel
theorem dX6_meanAt_5 : decode cX6_meanAt 5 = .ok (.iload 5, 2) := by decide +kernel
theorem dX6_meanAt_7 : decode cX6_meanAt 7 = .ok (.iload_n 1, 1) := by decide +kernel
theorem dX6_meanAt_8 : decode cX6_meanAt 8 = .ok (.if_icmp .gt 70, 3) := by decide +kernel
theorem dX6_meanAt_11 : decode cX6_meanAt 11 = .ok (.aload_n 0, 1) := by decide +kernel
theorem dX6_meanAt_12 : decode cX6_meanAt 12 = .ok (.getfield 26, 3) := by decide +kernel
theorem dX6_meanAt_15 : decode cX6_meanAt 15 = .ok (.bipush 8, 2) := by decide +kernel
theorem dX6_meanAt_17 : decode cX6_meanAt 17 = .ok (.iload_n 1, 1) := by decide +kernel
theorem dX6_meanAt_18 : decode cX6_meanAt 18 = .ok (.imul, 1) := by decide +kernel
theorem dX6_meanAt_19 : decode cX6_meanAt 19 = .ok (.iload 5, 2) := by decide +kernel
theorem dX6_meanAt_21 : decode cX6_meanAt 21 = .ok (.iadd, 1) := by decide +kernel
theorem dX6_meanAt_22 : decode cX6_meanAt 22 = .ok (.laload, 1) := by decide +kernel
theorem dX6_meanAt_23 : decode cX6_meanAt 23 = .ok (.aload_n 0, 1) := by decide +kernel
theorem dX6_meanAt_24 : decode cX6_meanAt 24 = .ok (.getfield 30, 3) := by decide +kernel
theorem dX6_meanAt_27 : decode cX6_meanAt 27 = .ok (.iload_n 1, 1) := by decide +kernel
theorem dX6_meanAt_28 : decode cX6_meanAt 28 = .ok (.iconst 1, 1) := by decide +kernel
theorem dX6_meanAt_29 : decode cX6_meanAt 29 = .ok (.iadd, 1) := by decide +kernel
theorem dX6_meanAt_30 : decode cX6_meanAt 30 = .ok (.iload_n 2, 1) := by decide +kernel
theorem dX6_meanAt_31 : decode cX6_meanAt 31 = .ok (.iconst 1, 1) := by decide +kernel
theorem dX6_meanAt_32 : decode cX6_meanAt 32 = .ok (.isub, 1) := by decide +kernel
theorem dX6_meanAt_33 : decode cX6_meanAt 33 = .ok (.invokestatic 138, 3) := by decide +kernel
theorem dX6_meanAt_36 : decode cX6_meanAt 36 = .ok (.laload, 1) := by decide +kernel
theorem dX6_meanAt_37 : decode cX6_meanAt 37 = .ok (.ladd, 1) := by decide +kernel
theorem dX6_meanAt_38 : decode cX6_meanAt 38 = .ok (.lstore 6, 2) := by decide +kernel
theorem dX6_meanAt_40 : decode cX6_meanAt 40 = .ok (.aload_n 0, 1) := by decide +kernel
theorem dX6_meanAt_41 : decode cX6_meanAt 41 = .ok (.getfield 30, 3) := by decide +kernel
theorem dX6_meanAt_44 : decode cX6_meanAt 44 = .ok (.iload_n 1, 1) := by decide +kernel
theorem dX6_meanAt_45 : decode cX6_meanAt 45 = .ok (.iconst 1, 1) := by decide +kernel
theorem dX6_meanAt_46 : decode cX6_meanAt 46 = .ok (.iadd, 1) := by decide +kernel
theorem dX6_meanAt_47 : decode cX6_meanAt 47 = .ok (.iload_n 2, 1) := by decide +kernel
theorem dX6_meanAt_48 : decode cX6_meanAt 48 = .ok (.invokestatic 138, 3) := by decide +kernel
theorem dX6_meanAt_51 : decode cX6_meanAt 51 = .ok (.laload, 1) := by decide +kernel
theorem dX6_meanAt_52 : decode cX6_meanAt 52 = .ok (.lstore 8, 2) := by decide +kernel
theorem dX6_meanAt_54 : decode cX6_meanAt 54 = .ok (.lload_n 3, 1) := by decide +kernel
theorem dX6_meanAt_55 : decode cX6_meanAt 55 = .ok (.lload 6, 2) := by decide +kernel
theorem dX6_meanAt_57 : decode cX6_meanAt 57 = .ok (.lload 8, 2) := by decide +kernel
theorem dX6_meanAt_59 : decode cX6_meanAt 59 = .ok (.lcmp, 1) := by decide +kernel
theorem dX6_meanAt_60 : decode cX6_meanAt 60 = .ok (.ifCond .le 8, 3) := by decide +kernel
theorem dX6_meanAt_63 : decode cX6_meanAt 63 = .ok (.lload 6, 2) := by decide +kernel
theorem dX6_meanAt_65 : decode cX6_meanAt 65 = .ok (.goto 5, 3) := by decide +kernel
theorem dX6_meanAt_68 : decode cX6_meanAt 68 = .ok (.lload 8, 2) := by decide +kernel
theorem dX6_meanAt_70 : decode cX6_meanAt 70 = .ok (.ladd, 1) := by decide +kernel
theorem dX6_meanAt_71 : decode cX6_meanAt 71 = .ok (.lstore_n 3, 1) := by decide +kernel
theorem dX6_meanAt_72 : decode cX6_meanAt 72 = .ok (.iinc 5 1, 3) := by decide +kernel
theorem dX6_meanAt_75 : decode cX6_meanAt 75 = .ok (.goto (-70), 3) := by decide +kernel
theorem dX6_meanAt_78 : decode cX6_meanAt 78 = .ok (.lload_n 3, 1) := by decide +kernel
theorem dX6_meanAt_79 : decode cX6_meanAt 79 = .ok (.iload_n 1, 1) := by decide +kernel
theorem dX6_meanAt_80 : decode cX6_meanAt 80 = .ok (.i2l, 1) := by decide +kernel
theorem dX6_meanAt_81 : decode cX6_meanAt 81 = .ok (.ldiv, 1) := by decide +kernel
theorem dX6_meanAt_82 : decode cX6_meanAt 82 = .ok (.lreturn, 1) := by decide +kernel
theorem dX6_spotOf_0 : decode cX6_spotOf 0 = .ok (.iconst 4, 1) := by decide +kernel
theorem dX6_spotOf_1 : decode cX6_spotOf 1 = .ok (.iload_n 0, 1) := by decide +kernel
theorem dX6_spotOf_2 : decode cX6_spotOf 2 = .ok (.iconst 1, 1) := by decide +kernel
theorem dX6_spotOf_3 : decode cX6_spotOf 3 = .ok (.isub, 1) := by decide +kernel
theorem dX6_spotOf_4 : decode cX6_spotOf 4 = .ok (.imul, 1) := by decide +kernel
theorem dX6_spotOf_5 : decode cX6_spotOf 5 = .ok (.iload_n 1, 1) := by decide +kernel
theorem dX6_spotOf_6 : decode cX6_spotOf 6 = .ok (.iadd, 1) := by decide +kernel
theorem dX6_spotOf_7 : decode cX6_spotOf 7 = .ok (.bipush 6, 2) := by decide +kernel
theorem dX6_spotOf_9 : decode cX6_spotOf 9 = .ok (.imul, 1) := by decide +kernel
theorem dX6_spotOf_10 : decode cX6_spotOf 10 = .ok (.iload_n 2, 1) := by decide +kernel
theorem dX6_spotOf_11 : decode cX6_spotOf 11 = .ok (.iadd, 1) := by decide +kernel
theorem dX6_spotOf_12 : decode cX6_spotOf 12 = .ok (.bipush 6, 2) := by decide +kernel
theorem dX6_spotOf_14 : decode cX6_spotOf 14 = .ok (.imul, 1) := by decide +kernel
theorem dX6_spotOf_15 : decode cX6_spotOf 15 = .ok (.iload_n 3, 1) := by decide +kernel
theorem dX6_spotOf_16 : decode cX6_spotOf 16 = .ok (.iadd, 1) := by decide +kernel
theorem dX6_spotOf_17 : decode cX6_spotOf 17 = .ok (.ireturn, 1) := by decide +kernel
theorem dX6_valueOf_0 : decode cX6_valueOf 0 = .ok (.aload_n 0, 1) := by decide +kernel
theorem dX6_valueOf_1 : decode cX6_valueOf 1 = .ok (.getfield 7, 3) := by decide +kernel
theorem dX6_valueOf_4 : decode cX6_valueOf 4 = .ok (.bipush 10, 2) := by decide +kernel
theorem dX6_valueOf_6 : decode cX6_valueOf 6 = .ok (.iload_n 1, 1) := by decide +kernel
theorem dX6_valueOf_7 : decode cX6_valueOf 7 = .ok (.iadd, 1) := by decide +kernel
theorem dX6_valueOf_8 : decode cX6_valueOf 8 = .ok (.iaload, 1) := by decide +kernel
theorem dX6_valueOf_9 : decode cX6_valueOf 9 = .ok (.ireturn, 1) := by decide +kernel
theorem dX6_recallAt_0 : decode cX6_recallAt 0 = .ok (.iload 5, 2) := by decide +kernel
theorem dX6_recallAt_2 : decode cX6_recallAt 2 = .ok (.iconst 1, 1) := by decide +kernel
theorem dX6_recallAt_3 : decode cX6_recallAt 3 = .ok (.if_icmp .ne 7, 3) := by decide +kernel
theorem dX6_recallAt_6 : decode cX6_recallAt 6 = .ok (.iload_n 3, 1) := by decide +kernel
theorem dX6_recallAt_7 : decode cX6_recallAt 7 = .ok (.goto 5, 3) := by decide +kernel
theorem dX6_recallAt_10 : decode cX6_recallAt 10 = .ok (.iload 4, 2) := by decide +kernel
theorem dX6_recallAt_12 : decode cX6_recallAt 12 = .ok (.istore 6, 2) := by decide +kernel
theorem dX6_recallAt_14 : decode cX6_recallAt 14 = .ok (.iload 6, 2) := by decide +kernel
theorem dX6_recallAt_16 : decode cX6_recallAt 16 = .ok (.iconst 5, 1) := by decide +kernel
theorem dX6_recallAt_17 : decode cX6_recallAt 17 = .ok (.if_icmp .ne 7, 3) := by decide +kernel
theorem dX6_recallAt_20 : decode cX6_recallAt 20 = .ok (.ldc2_w 141, 3) := by decide +kernel
theorem dX6_recallAt_23 : decode cX6_recallAt 23 = .ok (.lreturn, 1) := by decide +kernel
theorem dX6_recallAt_24 : decode cX6_recallAt 24 = .ok (.iload 5, 2) := by decide +kernel
theorem dX6_recallAt_26 : decode cX6_recallAt 26 = .ok (.iconst 1, 1) := by decide +kernel
theorem dX6_recallAt_27 : decode cX6_recallAt 27 = .ok (.if_icmp .ne 7, 3) := by decide +kernel
theorem dX6_recallAt_30 : decode cX6_recallAt 30 = .ok (.iconst 5, 1) := by decide +kernel
theorem dX6_recallAt_31 : decode cX6_recallAt 31 = .ok (.goto 4, 3) := by decide +kernel
theorem dX6_recallAt_34 : decode cX6_recallAt 34 = .ok (.iload_n 3, 1) := by decide +kernel
theorem dX6_recallAt_35 : decode cX6_recallAt 35 = .ok (.istore 7, 2) := by decide +kernel
theorem dX6_recallAt_37 : decode cX6_recallAt 37 = .ok (.iload 5, 2) := by decide +kernel
theorem dX6_recallAt_39 : decode cX6_recallAt 39 = .ok (.iconst 2, 1) := by decide +kernel
theorem dX6_recallAt_40 : decode cX6_recallAt 40 = .ok (.if_icmp .ne 7, 3) := by decide +kernel
theorem dX6_recallAt_43 : decode cX6_recallAt 43 = .ok (.iconst 5, 1) := by decide +kernel
theorem dX6_recallAt_44 : decode cX6_recallAt 44 = .ok (.goto 5, 3) := by decide +kernel
theorem dX6_recallAt_47 : decode cX6_recallAt 47 = .ok (.iload 4, 2) := by decide +kernel
theorem dX6_recallAt_49 : decode cX6_recallAt 49 = .ok (.istore 8, 2) := by decide +kernel
theorem dX6_recallAt_51 : decode cX6_recallAt 51 = .ok (.aload_n 0, 1) := by decide +kernel
theorem dX6_recallAt_52 : decode cX6_recallAt 52 = .ok (.getfield 7, 3) := by decide +kernel
theorem dX6_recallAt_55 : decode cX6_recallAt 55 = .ok (.bipush 20, 2) := by decide +kernel
theorem dX6_recallAt_57 : decode cX6_recallAt 57 = .ok (.iload 5, 2) := by decide +kernel
theorem dX6_recallAt_59 : decode cX6_recallAt 59 = .ok (.iadd, 1) := by decide +kernel
theorem dX6_recallAt_60 : decode cX6_recallAt 60 = .ok (.iconst 1, 1) := by decide +kernel
theorem dX6_recallAt_61 : decode cX6_recallAt 61 = .ok (.isub, 1) := by decide +kernel
theorem dX6_recallAt_62 : decode cX6_recallAt 62 = .ok (.iaload, 1) := by decide +kernel
theorem dX6_recallAt_63 : decode cX6_recallAt 63 = .ok (.i2l, 1) := by decide +kernel
theorem dX6_recallAt_64 : decode cX6_recallAt 64 = .ok (.lstore 9, 2) := by decide +kernel
theorem dX6_recallAt_66 : decode cX6_recallAt 66 = .ok (.lload 9, 2) := by decide +kernel
theorem dX6_recallAt_68 : decode cX6_recallAt 68 = .ok (.aload_n 0, 1) := by decide +kernel
theorem dX6_recallAt_69 : decode cX6_recallAt 69 = .ok (.iload 6, 2) := by decide +kernel
theorem dX6_recallAt_71 : decode cX6_recallAt 71 = .ok (.invokevirtual 143, 3) := by decide +kernel
theorem dX6_recallAt_74 : decode cX6_recallAt 74 = .ok (.i2l, 1) := by decide +kernel
theorem dX6_recallAt_75 : decode cX6_recallAt 75 = .ok (.ldc2_w 146, 3) := by decide +kernel
theorem dX6_recallAt_78 : decode cX6_recallAt 78 = .ok (.lmul, 1) := by decide +kernel
theorem dX6_recallAt_79 : decode cX6_recallAt 79 = .ok (.aload_n 0, 1) := by decide +kernel
theorem dX6_recallAt_80 : decode cX6_recallAt 80 = .ok (.getfield 36, 3) := by decide +kernel
theorem dX6_recallAt_83 : decode cX6_recallAt 83 = .ok (.iload_n 1, 1) := by decide +kernel
theorem dX6_recallAt_84 : decode cX6_recallAt 84 = .ok (.iload_n 2, 1) := by decide +kernel
theorem dX6_recallAt_85 : decode cX6_recallAt 85 = .ok (.iconst 1, 1) := by decide +kernel
theorem dX6_recallAt_86 : decode cX6_recallAt 86 = .ok (.isub, 1) := by decide +kernel
theorem dX6_recallAt_87 : decode cX6_recallAt 87 = .ok (.iload 7, 2) := by decide +kernel
theorem dX6_recallAt_89 : decode cX6_recallAt 89 = .ok (.iload 8, 2) := by decide +kernel
theorem dX6_recallAt_91 : decode cX6_recallAt 91 = .ok (.invokestatic 148, 3) := by decide +kernel
theorem dX6_recallAt_94 : decode cX6_recallAt 94 = .ok (.laload, 1) := by decide +kernel
theorem dX6_recallAt_95 : decode cX6_recallAt 95 = .ok (.ladd, 1) := by decide +kernel
theorem dX6_recallAt_96 : decode cX6_recallAt 96 = .ok (.lmul, 1) := by decide +kernel
theorem dX6_recallAt_97 : decode cX6_recallAt 97 = .ok (.ldc2_w 152, 3) := by decide +kernel
theorem dX6_recallAt_100 : decode cX6_recallAt 100 = .ok (.lload 9, 2) := by decide +kernel
theorem dX6_recallAt_102 : decode cX6_recallAt 102 = .ok (.lsub, 1) := by decide +kernel
theorem dX6_recallAt_103 : decode cX6_recallAt 103 = .ok (.aload_n 0, 1) := by decide +kernel
theorem dX6_recallAt_104 : decode cX6_recallAt 104 = .ok (.getfield 36, 3) := by decide +kernel
theorem dX6_recallAt_107 : decode cX6_recallAt 107 = .ok (.iload_n 1, 1) := by decide +kernel
theorem dX6_recallAt_108 : decode cX6_recallAt 108 = .ok (.iload_n 2, 1) := by decide +kernel
theorem dX6_recallAt_109 : decode cX6_recallAt 109 = .ok (.iload 7, 2) := by decide +kernel
theorem dX6_recallAt_111 : decode cX6_recallAt 111 = .ok (.iload 8, 2) := by decide +kernel
theorem dX6_recallAt_113 : decode cX6_recallAt 113 = .ok (.invokestatic 148, 3) := by decide +kernel
theorem dX6_recallAt_116 : decode cX6_recallAt 116 = .ok (.laload, 1) := by decide +kernel
theorem dX6_recallAt_117 : decode cX6_recallAt 117 = .ok (.lmul, 1) := by decide +kernel
theorem dX6_recallAt_118 : decode cX6_recallAt 118 = .ok (.ladd, 1) := by decide +kernel
theorem dX6_recallAt_119 : decode cX6_recallAt 119 = .ok (.ldc2_w 152, 3) := by decide +kernel
theorem dX6_recallAt_122 : decode cX6_recallAt 122 = .ok (.ldiv, 1) := by decide +kernel
theorem dX6_recallAt_123 : decode cX6_recallAt 123 = .ok (.lreturn, 1) := by decide +kernel
theorem dX6_drawnAt_0 : decode cX6_drawnAt 0 = .ok (.lconst 0, 1) := by decide +kernel
theorem dX6_drawnAt_1 : decode cX6_drawnAt 1 = .ok (.lstore 4, 2) := by decide +kernel
theorem dX6_drawnAt_3 : decode cX6_drawnAt 3 = .ok (.iconst 0, 1) := by decide +kernel
theorem dX6_drawnAt_4 : decode cX6_drawnAt 4 = .ok (.istore 6, 2) := by decide +kernel
theorem dX6_drawnAt_6 : decode cX6_drawnAt 6 = .ok (.iload 6, 2) := by decide +kernel
theorem dX6_drawnAt_8 : decode cX6_drawnAt 8 = .ok (.iconst 5, 1) := by decide +kernel
theorem dX6_drawnAt_9 : decode cX6_drawnAt 9 = .ok (.if_icmp .ge 88, 3) := by decide +kernel
theorem dX6_drawnAt_12 : decode cX6_drawnAt 12 = .ok (.aload_n 0, 1) := by decide +kernel
theorem dX6_drawnAt_13 : decode cX6_drawnAt 13 = .ok (.iload 6, 2) := by decide +kernel
theorem dX6_drawnAt_15 : decode cX6_drawnAt 15 = .ok (.invokevirtual 143, 3) := by decide +kernel
theorem dX6_drawnAt_18 : decode cX6_drawnAt 18 = .ok (.i2l, 1) := by decide +kernel
theorem dX6_drawnAt_19 : decode cX6_drawnAt 19 = .ok (.ldc2_w 146, 3) := by decide +kernel
theorem dX6_drawnAt_22 : decode cX6_drawnAt 22 = .ok (.lmul, 1) := by decide +kernel
theorem dX6_drawnAt_23 : decode cX6_drawnAt 23 = .ok (.aload_n 0, 1) := by decide +kernel
theorem dX6_drawnAt_24 : decode cX6_drawnAt 24 = .ok (.getfield 33, 3) := by decide +kernel
theorem dX6_drawnAt_27 : decode cX6_drawnAt 27 = .ok (.iload_n 1, 1) := by decide +kernel
theorem dX6_drawnAt_28 : decode cX6_drawnAt 28 = .ok (.iconst 1, 1) := by decide +kernel
theorem dX6_drawnAt_29 : decode cX6_drawnAt 29 = .ok (.iadd, 1) := by decide +kernel
theorem dX6_drawnAt_30 : decode cX6_drawnAt 30 = .ok (.iload_n 2, 1) := by decide +kernel
theorem dX6_drawnAt_31 : decode cX6_drawnAt 31 = .ok (.iconst 1, 1) := by decide +kernel
theorem dX6_drawnAt_32 : decode cX6_drawnAt 32 = .ok (.isub, 1) := by decide +kernel
theorem dX6_drawnAt_33 : decode cX6_drawnAt 33 = .ok (.iconst 5, 1) := by decide +kernel
theorem dX6_drawnAt_34 : decode cX6_drawnAt 34 = .ok (.iload_n 3, 1) := by decide +kernel
theorem dX6_drawnAt_35 : decode cX6_drawnAt 35 = .ok (.invokestatic 148, 3) := by decide +kernel
theorem dX6_drawnAt_38 : decode cX6_drawnAt 38 = .ok (.laload, 1) := by decide +kernel
theorem dX6_drawnAt_39 : decode cX6_drawnAt 39 = .ok (.ladd, 1) := by decide +kernel
theorem dX6_drawnAt_40 : decode cX6_drawnAt 40 = .ok (.lstore 7, 2) := by decide +kernel
theorem dX6_drawnAt_42 : decode cX6_drawnAt 42 = .ok (.aload_n 0, 1) := by decide +kernel
theorem dX6_drawnAt_43 : decode cX6_drawnAt 43 = .ok (.getfield 33, 3) := by decide +kernel
theorem dX6_drawnAt_46 : decode cX6_drawnAt 46 = .ok (.iload_n 1, 1) := by decide +kernel
theorem dX6_drawnAt_47 : decode cX6_drawnAt 47 = .ok (.iconst 1, 1) := by decide +kernel
theorem dX6_drawnAt_48 : decode cX6_drawnAt 48 = .ok (.iadd, 1) := by decide +kernel
theorem dX6_drawnAt_49 : decode cX6_drawnAt 49 = .ok (.iload_n 2, 1) := by decide +kernel
theorem dX6_drawnAt_50 : decode cX6_drawnAt 50 = .ok (.iload 6, 2) := by decide +kernel
theorem dX6_drawnAt_52 : decode cX6_drawnAt 52 = .ok (.iload_n 3, 1) := by decide +kernel
theorem dX6_drawnAt_53 : decode cX6_drawnAt 53 = .ok (.invokestatic 148, 3) := by decide +kernel
theorem dX6_drawnAt_56 : decode cX6_drawnAt 56 = .ok (.laload, 1) := by decide +kernel
theorem dX6_drawnAt_57 : decode cX6_drawnAt 57 = .ok (.lstore 9, 2) := by decide +kernel
theorem dX6_drawnAt_59 : decode cX6_drawnAt 59 = .ok (.lload 4, 2) := by decide +kernel
theorem dX6_drawnAt_61 : decode cX6_drawnAt 61 = .ok (.aload_n 0, 1) := by decide +kernel
theorem dX6_drawnAt_62 : decode cX6_drawnAt 62 = .ok (.getfield 7, 3) := by decide +kernel
theorem dX6_drawnAt_65 : decode cX6_drawnAt 65 = .ok (.bipush 15, 2) := by decide +kernel
theorem dX6_drawnAt_67 : decode cX6_drawnAt 67 = .ok (.iload 6, 2) := by decide +kernel
theorem dX6_drawnAt_69 : decode cX6_drawnAt 69 = .ok (.iadd, 1) := by decide +kernel
theorem dX6_drawnAt_70 : decode cX6_drawnAt 70 = .ok (.iaload, 1) := by decide +kernel
theorem dX6_drawnAt_71 : decode cX6_drawnAt 71 = .ok (.i2l, 1) := by decide +kernel
theorem dX6_drawnAt_72 : decode cX6_drawnAt 72 = .ok (.lload 7, 2) := by decide +kernel
theorem dX6_drawnAt_74 : decode cX6_drawnAt 74 = .ok (.lload 9, 2) := by decide +kernel
theorem dX6_drawnAt_76 : decode cX6_drawnAt 76 = .ok (.lcmp, 1) := by decide +kernel
theorem dX6_drawnAt_77 : decode cX6_drawnAt 77 = .ok (.ifCond .le 8, 3) := by decide +kernel
theorem dX6_drawnAt_80 : decode cX6_drawnAt 80 = .ok (.lload 7, 2) := by decide +kernel
theorem dX6_drawnAt_82 : decode cX6_drawnAt 82 = .ok (.goto 5, 3) := by decide +kernel
theorem dX6_drawnAt_85 : decode cX6_drawnAt 85 = .ok (.lload 9, 2) := by decide +kernel
theorem dX6_drawnAt_87 : decode cX6_drawnAt 87 = .ok (.lmul, 1) := by decide +kernel
theorem dX6_drawnAt_88 : decode cX6_drawnAt 88 = .ok (.ladd, 1) := by decide +kernel
theorem dX6_drawnAt_89 : decode cX6_drawnAt 89 = .ok (.lstore 4, 2) := by decide +kernel
theorem dX6_drawnAt_91 : decode cX6_drawnAt 91 = .ok (.iinc 6 1, 3) := by decide +kernel
theorem dX6_drawnAt_94 : decode cX6_drawnAt 94 = .ok (.goto (-88), 3) := by decide +kernel
theorem dX6_drawnAt_97 : decode cX6_drawnAt 97 = .ok (.lload 4, 2) := by decide +kernel
theorem dX6_drawnAt_99 : decode cX6_drawnAt 99 = .ok (.ldc2_w 152, 3) := by decide +kernel
theorem dX6_drawnAt_102 : decode cX6_drawnAt 102 = .ok (.ldiv, 1) := by decide +kernel
theorem dX6_drawnAt_103 : decode cX6_drawnAt 103 = .ok (.lreturn, 1) := by decide +kernel
theorem dX6_findsValues_0 : decode cX6_findsValues 0 = .ok (.aload_n 0, 1) := by decide +kernel
theorem dX6_findsValues_1 : decode cX6_findsValues 1 = .ok (.invokevirtual 123, 3) := by decide +kernel
theorem dX6_findsValues_4 : decode cX6_findsValues 4 = .ok (.iconst 1, 1) := by decide +kernel
theorem dX6_findsValues_5 : decode cX6_findsValues 5 = .ok (.iadd, 1) := by decide +kernel
theorem dX6_findsValues_6 : decode cX6_findsValues 6 = .ok (.istore_n 1, 1) := by decide +kernel
theorem dX6_findsValues_7 : decode cX6_findsValues 7 = .ok (.iload_n 1, 1) := by decide +kernel
theorem dX6_findsValues_8 : decode cX6_findsValues 8 = .ok (.ifCond .le 161, 3) := by decide +kernel
theorem dX6_findsValues_11 : decode cX6_findsValues 11 = .ok (.iconst 0, 1) := by decide +kernel
theorem dX6_findsValues_12 : decode cX6_findsValues 12 = .ok (.istore_n 2, 1) := by decide +kernel
theorem dX6_findsValues_13 : decode cX6_findsValues 13 = .ok (.iload_n 2, 1) := by decide +kernel
theorem dX6_findsValues_14 : decode cX6_findsValues 14 = .ok (.iconst 3, 1) := by decide +kernel
theorem dX6_findsValues_15 : decode cX6_findsValues 15 = .ok (.if_icmp .gt 148, 3) := by decide +kernel
theorem dX6_findsValues_18 : decode cX6_findsValues 18 = .ok (.iconst 0, 1) := by decide +kernel
theorem dX6_findsValues_19 : decode cX6_findsValues 19 = .ok (.istore_n 3, 1) := by decide +kernel
theorem dX6_findsValues_20 : decode cX6_findsValues 20 = .ok (.iload_n 3, 1) := by decide +kernel
theorem dX6_findsValues_21 : decode cX6_findsValues 21 = .ok (.bipush 36, 2) := by decide +kernel
theorem dX6_findsValues_23 : decode cX6_findsValues 23 = .ok (.if_icmp .ge 80, 3) := by decide +kernel
theorem dX6_findsValues_26 : decode cX6_findsValues 26 = .ok (.iload_n 2, 1) := by decide +kernel
theorem dX6_findsValues_27 : decode cX6_findsValues 27 = .ok (.ifCond .eq 11, 3) := by decide +kernel
theorem dX6_findsValues_30 : decode cX6_findsValues 30 = .ok (.iload_n 1, 1) := by decide +kernel
theorem dX6_findsValues_31 : decode cX6_findsValues 31 = .ok (.aload_n 0, 1) := by decide +kernel
theorem dX6_findsValues_32 : decode cX6_findsValues 32 = .ok (.invokevirtual 123, 3) := by decide +kernel
theorem dX6_findsValues_35 : decode cX6_findsValues 35 = .ok (.if_icmp .le 7, 3) := by decide +kernel
theorem dX6_findsValues_38 : decode cX6_findsValues 38 = .ok (.lconst 0, 1) := by decide +kernel
theorem dX6_findsValues_39 : decode cX6_findsValues 39 = .ok (.goto 25, 3) := by decide +kernel
theorem dX6_findsValues_42 : decode cX6_findsValues 42 = .ok (.aload_n 0, 1) := by decide +kernel
theorem dX6_findsValues_43 : decode cX6_findsValues 43 = .ok (.iload_n 1, 1) := by decide +kernel
theorem dX6_findsValues_44 : decode cX6_findsValues 44 = .ok (.iload_n 2, 1) := by decide +kernel
theorem dX6_findsValues_45 : decode cX6_findsValues 45 = .ok (.iload_n 3, 1) := by decide +kernel
theorem dX6_findsValues_46 : decode cX6_findsValues 46 = .ok (.bipush 6, 2) := by decide +kernel
theorem dX6_findsValues_48 : decode cX6_findsValues 48 = .ok (.idiv, 1) := by decide +kernel
theorem dX6_findsValues_49 : decode cX6_findsValues 49 = .ok (.invokevirtual 154, 3) := by decide +kernel
theorem dX6_findsValues_52 : decode cX6_findsValues 52 = .ok (.ldc2_w 146, 3) := by decide +kernel
theorem dX6_findsValues_55 : decode cX6_findsValues 55 = .ok (.aload_n 0, 1) := by decide +kernel
theorem dX6_findsValues_56 : decode cX6_findsValues 56 = .ok (.getfield 7, 3) := by decide +kernel
theorem dX6_findsValues_59 : decode cX6_findsValues 59 = .ok (.iconst 2, 1) := by decide +kernel
theorem dX6_findsValues_60 : decode cX6_findsValues 60 = .ok (.iaload, 1) := by decide +kernel
theorem dX6_findsValues_61 : decode cX6_findsValues 61 = .ok (.i2l, 1) := by decide +kernel
theorem dX6_findsValues_62 : decode cX6_findsValues 62 = .ok (.lmul, 1) := by decide +kernel
theorem dX6_findsValues_63 : decode cX6_findsValues 63 = .ok (.lsub, 1) := by decide +kernel
theorem dX6_findsValues_64 : decode cX6_findsValues 64 = .ok (.lstore 4, 2) := by decide +kernel
theorem dX6_findsValues_66 : decode cX6_findsValues 66 = .ok (.aload_n 0, 1) := by decide +kernel
theorem dX6_findsValues_67 : decode cX6_findsValues 67 = .ok (.getfield 36, 3) := by decide +kernel
theorem dX6_findsValues_70 : decode cX6_findsValues 70 = .ok (.iload_n 1, 1) := by decide +kernel
theorem dX6_findsValues_71 : decode cX6_findsValues 71 = .ok (.iload_n 2, 1) := by decide +kernel
theorem dX6_findsValues_72 : decode cX6_findsValues 72 = .ok (.iload_n 3, 1) := by decide +kernel
theorem dX6_findsValues_73 : decode cX6_findsValues 73 = .ok (.bipush 6, 2) := by decide +kernel
theorem dX6_findsValues_75 : decode cX6_findsValues 75 = .ok (.idiv, 1) := by decide +kernel
theorem dX6_findsValues_76 : decode cX6_findsValues 76 = .ok (.iload_n 3, 1) := by decide +kernel
theorem dX6_findsValues_77 : decode cX6_findsValues 77 = .ok (.bipush 6, 2) := by decide +kernel
theorem dX6_findsValues_79 : decode cX6_findsValues 79 = .ok (.irem, 1) := by decide +kernel
theorem dX6_findsValues_80 : decode cX6_findsValues 80 = .ok (.invokestatic 148, 3) := by decide +kernel
theorem dX6_findsValues_83 : decode cX6_findsValues 83 = .ok (.lload 4, 2) := by decide +kernel
theorem dX6_findsValues_85 : decode cX6_findsValues 85 = .ok (.lconst 0, 1) := by decide +kernel
theorem dX6_findsValues_86 : decode cX6_findsValues 86 = .ok (.lcmp, 1) := by decide +kernel
theorem dX6_findsValues_87 : decode cX6_findsValues 87 = .ok (.ifCond .le 8, 3) := by decide +kernel
theorem dX6_findsValues_90 : decode cX6_findsValues 90 = .ok (.lload 4, 2) := by decide +kernel
theorem dX6_findsValues_92 : decode cX6_findsValues 92 = .ok (.goto 4, 3) := by decide +kernel
theorem dX6_findsValues_95 : decode cX6_findsValues 95 = .ok (.lconst 0, 1) := by decide +kernel
theorem dX6_findsValues_96 : decode cX6_findsValues 96 = .ok (.lastore, 1) := by decide +kernel
theorem dX6_findsValues_97 : decode cX6_findsValues 97 = .ok (.iinc 3 1, 3) := by decide +kernel
theorem dX6_findsValues_100 : decode cX6_findsValues 100 = .ok (.goto (-80), 3) := by decide +kernel
theorem dX6_findsValues_103 : decode cX6_findsValues 103 = .ok (.iconst 0, 1) := by decide +kernel
theorem dX6_findsValues_104 : decode cX6_findsValues 104 = .ok (.istore_n 3, 1) := by decide +kernel
theorem dX6_findsValues_105 : decode cX6_findsValues 105 = .ok (.iload_n 3, 1) := by decide +kernel
theorem dX6_findsValues_106 : decode cX6_findsValues 106 = .ok (.bipush 36, 2) := by decide +kernel
theorem dX6_findsValues_108 : decode cX6_findsValues 108 = .ok (.if_icmp .ge 49, 3) := by decide +kernel
theorem dX6_findsValues_111 : decode cX6_findsValues 111 = .ok (.aload_n 0, 1) := by decide +kernel
theorem dX6_findsValues_112 : decode cX6_findsValues 112 = .ok (.getfield 33, 3) := by decide +kernel
theorem dX6_findsValues_115 : decode cX6_findsValues 115 = .ok (.iload_n 1, 1) := by decide +kernel
theorem dX6_findsValues_116 : decode cX6_findsValues 116 = .ok (.iload_n 2, 1) := by decide +kernel
theorem dX6_findsValues_117 : decode cX6_findsValues 117 = .ok (.iload_n 3, 1) := by decide +kernel
theorem dX6_findsValues_118 : decode cX6_findsValues 118 = .ok (.bipush 6, 2) := by decide +kernel
theorem dX6_findsValues_120 : decode cX6_findsValues 120 = .ok (.idiv, 1) := by decide +kernel
theorem dX6_findsValues_121 : decode cX6_findsValues 121 = .ok (.iload_n 3, 1) := by decide +kernel
theorem dX6_findsValues_122 : decode cX6_findsValues 122 = .ok (.bipush 6, 2) := by decide +kernel
theorem dX6_findsValues_124 : decode cX6_findsValues 124 = .ok (.irem, 1) := by decide +kernel
theorem dX6_findsValues_125 : decode cX6_findsValues 125 = .ok (.invokestatic 148, 3) := by decide +kernel
theorem dX6_findsValues_128 : decode cX6_findsValues 128 = .ok (.iload_n 2, 1) := by decide +kernel
theorem dX6_findsValues_129 : decode cX6_findsValues 129 = .ok (.ifCond .ne 7, 3) := by decide +kernel
theorem dX6_findsValues_132 : decode cX6_findsValues 132 = .ok (.lconst 0, 1) := by decide +kernel
theorem dX6_findsValues_133 : decode cX6_findsValues 133 = .ok (.goto 17, 3) := by decide +kernel
theorem dX6_findsValues_136 : decode cX6_findsValues 136 = .ok (.aload_n 0, 1) := by decide +kernel
theorem dX6_findsValues_137 : decode cX6_findsValues 137 = .ok (.iload_n 1, 1) := by decide +kernel
theorem dX6_findsValues_138 : decode cX6_findsValues 138 = .ok (.iload_n 2, 1) := by decide +kernel
theorem dX6_findsValues_139 : decode cX6_findsValues 139 = .ok (.iload_n 3, 1) := by decide +kernel
theorem dX6_findsValues_140 : decode cX6_findsValues 140 = .ok (.bipush 6, 2) := by decide +kernel
theorem dX6_findsValues_142 : decode cX6_findsValues 142 = .ok (.idiv, 1) := by decide +kernel
theorem dX6_findsValues_143 : decode cX6_findsValues 143 = .ok (.iload_n 3, 1) := by decide +kernel
theorem dX6_findsValues_144 : decode cX6_findsValues 144 = .ok (.bipush 6, 2) := by decide +kernel
theorem dX6_findsValues_146 : decode cX6_findsValues 146 = .ok (.irem, 1) := by decide +kernel
theorem dX6_findsValues_147 : decode cX6_findsValues 147 = .ok (.invokevirtual 158, 3) := by decide +kernel
theorem dX6_findsValues_150 : decode cX6_findsValues 150 = .ok (.lastore, 1) := by decide +kernel
theorem dX6_findsValues_151 : decode cX6_findsValues 151 = .ok (.iinc 3 1, 3) := by decide +kernel
theorem dX6_findsValues_154 : decode cX6_findsValues 154 = .ok (.goto (-49), 3) := by decide +kernel
theorem dX6_findsValues_157 : decode cX6_findsValues 157 = .ok (.iinc 2 1, 3) := by decide +kernel
theorem dX6_findsValues_160 : decode cX6_findsValues 160 = .ok (.goto (-147), 3) := by decide +kernel
theorem dX6_findsValues_163 : decode cX6_findsValues 163 = .ok (.iinc 1 (-1), 3) := by decide +kernel
theorem dX6_findsValues_166 : decode cX6_findsValues 166 = .ok (.goto (-159), 3) := by decide +kernel
theorem dX6_findsValues_169 : decode cX6_findsValues 169 = .ok (.return_, 1) := by decide +kernel
theorem dX6_bestAt_0 : decode cX6_bestAt 0 = .ok (.aload_n 0, 1) := by decide +kernel
theorem dX6_bestAt_1 : decode cX6_bestAt 1 = .ok (.getfield 36, 3) := by decide +kernel
theorem dX6_bestAt_4 : decode cX6_bestAt 4 = .ok (.iload_n 1, 1) := by decide +kernel
theorem dX6_bestAt_5 : decode cX6_bestAt 5 = .ok (.iload_n 2, 1) := by decide +kernel
theorem dX6_bestAt_6 : decode cX6_bestAt 6 = .ok (.iload_n 3, 1) := by decide +kernel
theorem dX6_bestAt_7 : decode cX6_bestAt 7 = .ok (.iload 4, 2) := by decide +kernel
theorem dX6_bestAt_9 : decode cX6_bestAt 9 = .ok (.invokestatic 148, 3) := by decide +kernel
theorem dX6_bestAt_12 : decode cX6_bestAt 12 = .ok (.laload, 1) := by decide +kernel
theorem dX6_bestAt_13 : decode cX6_bestAt 13 = .ok (.lstore 5, 2) := by decide +kernel
theorem dX6_bestAt_15 : decode cX6_bestAt 15 = .ok (.iconst 1, 1) := by decide +kernel
theorem dX6_bestAt_16 : decode cX6_bestAt 16 = .ok (.istore 7, 2) := by decide +kernel
theorem dX6_bestAt_18 : decode cX6_bestAt 18 = .ok (.iload 7, 2) := by decide +kernel
theorem dX6_bestAt_20 : decode cX6_bestAt 20 = .ok (.iconst 3, 1) := by decide +kernel
theorem dX6_bestAt_21 : decode cX6_bestAt 21 = .ok (.if_icmp .ge 39, 3) := by decide +kernel
theorem dX6_bestAt_24 : decode cX6_bestAt 24 = .ok (.aload_n 0, 1) := by decide +kernel
theorem dX6_bestAt_25 : decode cX6_bestAt 25 = .ok (.iload_n 1, 1) := by decide +kernel
theorem dX6_bestAt_26 : decode cX6_bestAt 26 = .ok (.iload_n 2, 1) := by decide +kernel
theorem dX6_bestAt_27 : decode cX6_bestAt 27 = .ok (.iload_n 3, 1) := by decide +kernel
theorem dX6_bestAt_28 : decode cX6_bestAt 28 = .ok (.iload 4, 2) := by decide +kernel
theorem dX6_bestAt_30 : decode cX6_bestAt 30 = .ok (.iload 7, 2) := by decide +kernel
theorem dX6_bestAt_32 : decode cX6_bestAt 32 = .ok (.invokevirtual 162, 3) := by decide +kernel
theorem dX6_bestAt_35 : decode cX6_bestAt 35 = .ok (.lstore 8, 2) := by decide +kernel
theorem dX6_bestAt_37 : decode cX6_bestAt 37 = .ok (.lload 8, 2) := by decide +kernel
theorem dX6_bestAt_39 : decode cX6_bestAt 39 = .ok (.lload 5, 2) := by decide +kernel
theorem dX6_bestAt_41 : decode cX6_bestAt 41 = .ok (.lcmp, 1) := by decide +kernel
theorem dX6_bestAt_42 : decode cX6_bestAt 42 = .ok (.ifCond .le 8, 3) := by decide +kernel
theorem dX6_bestAt_45 : decode cX6_bestAt 45 = .ok (.lload 8, 2) := by decide +kernel
theorem dX6_bestAt_47 : decode cX6_bestAt 47 = .ok (.goto 5, 3) := by decide +kernel
theorem dX6_bestAt_50 : decode cX6_bestAt 50 = .ok (.lload 5, 2) := by decide +kernel
theorem dX6_bestAt_52 : decode cX6_bestAt 52 = .ok (.lstore 5, 2) := by decide +kernel
theorem dX6_bestAt_54 : decode cX6_bestAt 54 = .ok (.iinc 7 1, 3) := by decide +kernel
theorem dX6_bestAt_57 : decode cX6_bestAt 57 = .ok (.goto (-39), 3) := by decide +kernel
theorem dX6_bestAt_60 : decode cX6_bestAt 60 = .ok (.lload 5, 2) := by decide +kernel
theorem dX6_bestAt_62 : decode cX6_bestAt 62 = .ok (.lreturn, 1) := by decide +kernel
theorem dX6_knows_0 : decode cX6_knows 0 = .ok (.aload_n 0, 1) := by decide +kernel
theorem dX6_knows_1 : decode cX6_knows 1 = .ok (.getfield 55, 3) := by decide +kernel
theorem dX6_knows_4 : decode cX6_knows 4 = .ok (.ifCond .ne 16, 3) := by decide +kernel
theorem dX6_knows_7 : decode cX6_knows 7 = .ok (.aload_n 0, 1) := by decide +kernel
theorem dX6_knows_8 : decode cX6_knows 8 = .ok (.iconst 1, 1) := by decide +kernel
theorem dX6_knows_9 : decode cX6_knows 9 = .ok (.putfield 55, 3) := by decide +kernel
theorem dX6_knows_12 : decode cX6_knows 12 = .ok (.aload_n 0, 1) := by decide +kernel
theorem dX6_knows_13 : decode cX6_knows 13 = .ok (.invokevirtual 166, 3) := by decide +kernel
theorem dX6_knows_16 : decode cX6_knows 16 = .ok (.aload_n 0, 1) := by decide +kernel
theorem dX6_knows_17 : decode cX6_knows 17 = .ok (.invokevirtual 169, 3) := by decide +kernel
theorem dX6_knows_20 : decode cX6_knows 20 = .ok (.return_, 1) := by decide +kernel
theorem dX6_isCandidate_0 : decode cX6_isCandidate 0 = .ok (.iload_n 1, 1) := by decide +kernel
theorem dX6_isCandidate_1 : decode cX6_isCandidate 1 = .ok (.iconst 1, 1) := by decide +kernel
theorem dX6_isCandidate_2 : decode cX6_isCandidate 2 = .ok (.aload_n 0, 1) := by decide +kernel
theorem dX6_isCandidate_3 : decode cX6_isCandidate 3 = .ok (.invokevirtual 123, 3) := by decide +kernel
theorem dX6_isCandidate_6 : decode cX6_isCandidate 6 = .ok (.invokestatic 69, 3) := by decide +kernel
theorem dX6_isCandidate_9 : decode cX6_isCandidate 9 = .ok (.ireturn, 1) := by decide +kernel
theorem dX6_worth_0 : decode cX6_worth 0 = .ok (.aload_n 0, 1) := by decide +kernel
theorem dX6_worth_1 : decode cX6_worth 1 = .ok (.iload_n 1, 1) := by decide +kernel
theorem dX6_worth_2 : decode cX6_worth 2 = .ok (.invokevirtual 172, 3) := by decide +kernel
theorem dX6_worth_5 : decode cX6_worth 5 = .ok (.ifCond .eq 12, 3) := by decide +kernel
theorem dX6_worth_8 : decode cX6_worth 8 = .ok (.iload_n 2, 1) := by decide +kernel
theorem dX6_worth_9 : decode cX6_worth 9 = .ok (.iconst 1, 1) := by decide +kernel
theorem dX6_worth_10 : decode cX6_worth 10 = .ok (.iload_n 1, 1) := by decide +kernel
theorem dX6_worth_11 : decode cX6_worth 11 = .ok (.invokestatic 69, 3) := by decide +kernel
theorem dX6_worth_14 : decode cX6_worth 14 = .ok (.ifCond .ne 7, 3) := by decide +kernel
theorem dX6_worth_17 : decode cX6_worth 17 = .ok (.ldc2_w 176, 3) := by decide +kernel
theorem dX6_worth_20 : decode cX6_worth 20 = .ok (.lreturn, 1) := by decide +kernel
theorem dX6_worth_21 : decode cX6_worth 21 = .ok (.aload_n 0, 1) := by decide +kernel
theorem dX6_worth_22 : decode cX6_worth 22 = .ok (.invokevirtual 178, 3) := by decide +kernel
theorem dX6_worth_25 : decode cX6_worth 25 = .ok (.aload_n 0, 1) := by decide +kernel
theorem dX6_worth_26 : decode cX6_worth 26 = .ok (.aload_n 0, 1) := by decide +kernel
theorem dX6_worth_27 : decode cX6_worth 27 = .ok (.getfield 26, 3) := by decide +kernel
theorem dX6_worth_30 : decode cX6_worth 30 = .ok (.bipush 8, 2) := by decide +kernel
theorem dX6_worth_32 : decode cX6_worth 32 = .ok (.iload_n 1, 1) := by decide +kernel
theorem dX6_worth_33 : decode cX6_worth 33 = .ok (.imul, 1) := by decide +kernel
theorem dX6_worth_34 : decode cX6_worth 34 = .ok (.iload_n 2, 1) := by decide +kernel
theorem dX6_worth_35 : decode cX6_worth 35 = .ok (.iadd, 1) := by decide +kernel
theorem dX6_worth_36 : decode cX6_worth 36 = .ok (.laload, 1) := by decide +kernel
theorem dX6_worth_37 : decode cX6_worth 37 = .ok (.ldc2_w 130, 3) := by decide +kernel
theorem dX6_worth_40 : decode cX6_worth 40 = .ok (.invokevirtual 181, 3) := by decide +kernel
theorem dX6_worth_43 : decode cX6_worth 43 = .ok (.lreturn, 1) := by decide +kernel
theorem dX6_rankValue_0 : decode cX6_rankValue 0 = .ok (.iload_n 1, 1) := by decide +kernel
theorem dX6_rankValue_1 : decode cX6_rankValue 1 = .ok (.iconst 1, 1) := by decide +kernel
theorem dX6_rankValue_2 : decode cX6_rankValue 2 = .ok (.aload_n 0, 1) := by decide +kernel
theorem dX6_rankValue_3 : decode cX6_rankValue 3 = .ok (.invokevirtual 123, 3) := by decide +kernel
theorem dX6_rankValue_6 : decode cX6_rankValue 6 = .ok (.iconst 1, 1) := by decide +kernel
theorem dX6_rankValue_7 : decode cX6_rankValue 7 = .ok (.iadd, 1) := by decide +kernel
theorem dX6_rankValue_8 : decode cX6_rankValue 8 = .ok (.invokestatic 69, 3) := by decide +kernel
theorem dX6_rankValue_11 : decode cX6_rankValue 11 = .ok (.ifCond .eq 15, 3) := by decide +kernel
theorem dX6_rankValue_14 : decode cX6_rankValue 14 = .ok (.iload_n 2, 1) := by decide +kernel
theorem dX6_rankValue_15 : decode cX6_rankValue 15 = .ok (.iconst 0, 1) := by decide +kernel
theorem dX6_rankValue_16 : decode cX6_rankValue 16 = .ok (.aload_n 0, 1) := by decide +kernel
theorem dX6_rankValue_17 : decode cX6_rankValue 17 = .ok (.invokevirtual 184, 3) := by decide +kernel
theorem dX6_rankValue_20 : decode cX6_rankValue 20 = .ok (.invokestatic 69, 3) := by decide +kernel
theorem dX6_rankValue_23 : decode cX6_rankValue 23 = .ok (.ifCond .ne 7, 3) := by decide +kernel
theorem dX6_rankValue_26 : decode cX6_rankValue 26 = .ok (.ldc2_w 176, 3) := by decide +kernel
theorem dX6_rankValue_29 : decode cX6_rankValue 29 = .ok (.lreturn, 1) := by decide +kernel
theorem dX6_rankValue_30 : decode cX6_rankValue 30 = .ok (.aload_n 0, 1) := by decide +kernel
theorem dX6_rankValue_31 : decode cX6_rankValue 31 = .ok (.invokevirtual 178, 3) := by decide +kernel
theorem dX6_rankValue_34 : decode cX6_rankValue 34 = .ok (.aload_n 0, 1) := by decide +kernel
theorem dX6_rankValue_35 : decode cX6_rankValue 35 = .ok (.aload_n 0, 1) := by decide +kernel
theorem dX6_rankValue_36 : decode cX6_rankValue 36 = .ok (.getfield 30, 3) := by decide +kernel
theorem dX6_rankValue_39 : decode cX6_rankValue 39 = .ok (.iload_n 1, 1) := by decide +kernel
theorem dX6_rankValue_40 : decode cX6_rankValue 40 = .ok (.iload_n 2, 1) := by decide +kernel
theorem dX6_rankValue_41 : decode cX6_rankValue 41 = .ok (.invokestatic 138, 3) := by decide +kernel
theorem dX6_rankValue_44 : decode cX6_rankValue 44 = .ok (.laload, 1) := by decide +kernel
theorem dX6_rankValue_45 : decode cX6_rankValue 45 = .ok (.ldc2_w 130, 3) := by decide +kernel
theorem dX6_rankValue_48 : decode cX6_rankValue 48 = .ok (.invokevirtual 181, 3) := by decide +kernel
theorem dX6_rankValue_51 : decode cX6_rankValue 51 = .ok (.lreturn, 1) := by decide +kernel
theorem dX6_isChosen_0 : decode cX6_isChosen 0 = .ok (.aload_n 0, 1) := by decide +kernel
theorem dX6_isChosen_1 : decode cX6_isChosen 1 = .ok (.getfield 26, 3) := by decide +kernel
theorem dX6_isChosen_4 : decode cX6_isChosen 4 = .ok (.bipush 8, 2) := by decide +kernel
theorem dX6_isChosen_6 : decode cX6_isChosen 6 = .ok (.iload_n 1, 1) := by decide +kernel
theorem dX6_isChosen_7 : decode cX6_isChosen 7 = .ok (.imul, 1) := by decide +kernel
theorem dX6_isChosen_8 : decode cX6_isChosen 8 = .ok (.iload_n 3, 1) := by decide +kernel
theorem dX6_isChosen_9 : decode cX6_isChosen 9 = .ok (.iadd, 1) := by decide +kernel
theorem dX6_isChosen_10 : decode cX6_isChosen 10 = .ok (.laload, 1) := by decide +kernel
theorem dX6_isChosen_11 : decode cX6_isChosen 11 = .ok (.aload_n 0, 1) := by decide +kernel
theorem dX6_isChosen_12 : decode cX6_isChosen 12 = .ok (.getfield 30, 3) := by decide +kernel
theorem dX6_isChosen_15 : decode cX6_isChosen 15 = .ok (.iload_n 1, 1) := by decide +kernel
theorem dX6_isChosen_16 : decode cX6_isChosen 16 = .ok (.iconst 1, 1) := by decide +kernel
theorem dX6_isChosen_17 : decode cX6_isChosen 17 = .ok (.iadd, 1) := by decide +kernel
theorem dX6_isChosen_18 : decode cX6_isChosen 18 = .ok (.iload_n 2, 1) := by decide +kernel
theorem dX6_isChosen_19 : decode cX6_isChosen 19 = .ok (.iconst 1, 1) := by decide +kernel
theorem dX6_isChosen_20 : decode cX6_isChosen 20 = .ok (.isub, 1) := by decide +kernel
theorem dX6_isChosen_21 : decode cX6_isChosen 21 = .ok (.invokestatic 138, 3) := by decide +kernel
theorem dX6_isChosen_24 : decode cX6_isChosen 24 = .ok (.laload, 1) := by decide +kernel
theorem dX6_isChosen_25 : decode cX6_isChosen 25 = .ok (.ladd, 1) := by decide +kernel
theorem dX6_isChosen_26 : decode cX6_isChosen 26 = .ok (.aload_n 0, 1) := by decide +kernel
theorem dX6_isChosen_27 : decode cX6_isChosen 27 = .ok (.getfield 30, 3) := by decide +kernel
theorem dX6_isChosen_30 : decode cX6_isChosen 30 = .ok (.iload_n 1, 1) := by decide +kernel
theorem dX6_isChosen_31 : decode cX6_isChosen 31 = .ok (.iconst 1, 1) := by decide +kernel
theorem dX6_isChosen_32 : decode cX6_isChosen 32 = .ok (.iadd, 1) := by decide +kernel
theorem dX6_isChosen_33 : decode cX6_isChosen 33 = .ok (.iload_n 2, 1) := by decide +kernel
theorem dX6_isChosen_34 : decode cX6_isChosen 34 = .ok (.invokestatic 138, 3) := by decide +kernel
theorem dX6_isChosen_37 : decode cX6_isChosen 37 = .ok (.laload, 1) := by decide +kernel
theorem dX6_isChosen_38 : decode cX6_isChosen 38 = .ok (.lcmp, 1) := by decide +kernel
theorem dX6_isChosen_39 : decode cX6_isChosen 39 = .ok (.ifCond .lt 7, 3) := by decide +kernel
theorem dX6_isChosen_42 : decode cX6_isChosen 42 = .ok (.iconst 1, 1) := by decide +kernel
theorem dX6_isChosen_43 : decode cX6_isChosen 43 = .ok (.goto 4, 3) := by decide +kernel
theorem dX6_isChosen_46 : decode cX6_isChosen 46 = .ok (.iconst 0, 1) := by decide +kernel
theorem dX6_isChosen_47 : decode cX6_isChosen 47 = .ok (.ireturn, 1) := by decide +kernel
theorem dX6_choosesRank_0 : decode cX6_choosesRank 0 = .ok (.aload_n 0, 1) := by decide +kernel
theorem dX6_choosesRank_1 : decode cX6_choosesRank 1 = .ok (.iload_n 1, 1) := by decide +kernel
theorem dX6_choosesRank_2 : decode cX6_choosesRank 2 = .ok (.invokevirtual 172, 3) := by decide +kernel
theorem dX6_choosesRank_5 : decode cX6_choosesRank 5 = .ok (.ifCond .eq 24, 3) := by decide +kernel
theorem dX6_choosesRank_8 : decode cX6_choosesRank 8 = .ok (.iload_n 2, 1) := by decide +kernel
theorem dX6_choosesRank_9 : decode cX6_choosesRank 9 = .ok (.iconst 1, 1) := by decide +kernel
theorem dX6_choosesRank_10 : decode cX6_choosesRank 10 = .ok (.aload_n 0, 1) := by decide +kernel
theorem dX6_choosesRank_11 : decode cX6_choosesRank 11 = .ok (.invokevirtual 184, 3) := by decide +kernel
theorem dX6_choosesRank_14 : decode cX6_choosesRank 14 = .ok (.invokestatic 69, 3) := by decide +kernel
theorem dX6_choosesRank_17 : decode cX6_choosesRank 17 = .ok (.ifCond .eq 12, 3) := by decide +kernel
theorem dX6_choosesRank_20 : decode cX6_choosesRank 20 = .ok (.iload_n 3, 1) := by decide +kernel
theorem dX6_choosesRank_21 : decode cX6_choosesRank 21 = .ok (.iconst 1, 1) := by decide +kernel
theorem dX6_choosesRank_22 : decode cX6_choosesRank 22 = .ok (.iload_n 1, 1) := by decide +kernel
theorem dX6_choosesRank_23 : decode cX6_choosesRank 23 = .ok (.invokestatic 69, 3) := by decide +kernel
theorem dX6_choosesRank_26 : decode cX6_choosesRank 26 = .ok (.ifCond .ne 5, 3) := by decide +kernel
theorem dX6_choosesRank_29 : decode cX6_choosesRank 29 = .ok (.iconst (-1), 1) := by decide +kernel
theorem dX6_choosesRank_30 : decode cX6_choosesRank 30 = .ok (.ireturn, 1) := by decide +kernel
theorem dX6_choosesRank_31 : decode cX6_choosesRank 31 = .ok (.aload_n 0, 1) := by decide +kernel
theorem dX6_choosesRank_32 : decode cX6_choosesRank 32 = .ok (.invokevirtual 178, 3) := by decide +kernel
theorem dX6_choosesRank_35 : decode cX6_choosesRank 35 = .ok (.aload_n 0, 1) := by decide +kernel
theorem dX6_choosesRank_36 : decode cX6_choosesRank 36 = .ok (.iload_n 1, 1) := by decide +kernel
theorem dX6_choosesRank_37 : decode cX6_choosesRank 37 = .ok (.iload_n 2, 1) := by decide +kernel
theorem dX6_choosesRank_38 : decode cX6_choosesRank 38 = .ok (.iload_n 3, 1) := by decide +kernel
theorem dX6_choosesRank_39 : decode cX6_choosesRank 39 = .ok (.invokevirtual 187, 3) := by decide +kernel
theorem dX6_choosesRank_42 : decode cX6_choosesRank 42 = .ok (.ifCond .eq 7, 3) := by decide +kernel
theorem dX6_choosesRank_45 : decode cX6_choosesRank 45 = .ok (.iconst 1, 1) := by decide +kernel
theorem dX6_choosesRank_46 : decode cX6_choosesRank 46 = .ok (.goto 4, 3) := by decide +kernel
theorem dX6_choosesRank_49 : decode cX6_choosesRank 49 = .ok (.iconst 0, 1) := by decide +kernel
theorem dX6_choosesRank_50 : decode cX6_choosesRank 50 = .ok (.ireturn, 1) := by decide +kernel
theorem dX6_thresholdAt_0 : decode cX6_thresholdAt 0 = .ok (.iconst 0, 1) := by decide +kernel
theorem dX6_thresholdAt_1 : decode cX6_thresholdAt 1 = .ok (.istore_n 3, 1) := by decide +kernel
theorem dX6_thresholdAt_2 : decode cX6_thresholdAt 2 = .ok (.iload_n 3, 1) := by decide +kernel
theorem dX6_thresholdAt_3 : decode cX6_thresholdAt 3 = .ok (.iload_n 1, 1) := by decide +kernel
theorem dX6_thresholdAt_4 : decode cX6_thresholdAt 4 = .ok (.if_icmp .ge 21, 3) := by decide +kernel
theorem dX6_thresholdAt_7 : decode cX6_thresholdAt 7 = .ok (.aload_n 0, 1) := by decide +kernel
theorem dX6_thresholdAt_8 : decode cX6_thresholdAt 8 = .ok (.iload_n 1, 1) := by decide +kernel
theorem dX6_thresholdAt_9 : decode cX6_thresholdAt 9 = .ok (.iload_n 2, 1) := by decide +kernel
theorem dX6_thresholdAt_10 : decode cX6_thresholdAt 10 = .ok (.iload_n 3, 1) := by decide +kernel
theorem dX6_thresholdAt_11 : decode cX6_thresholdAt 11 = .ok (.iconst 1, 1) := by decide +kernel
theorem dX6_thresholdAt_12 : decode cX6_thresholdAt 12 = .ok (.iadd, 1) := by decide +kernel
theorem dX6_thresholdAt_13 : decode cX6_thresholdAt 13 = .ok (.invokevirtual 187, 3) := by decide +kernel
theorem dX6_thresholdAt_16 : decode cX6_thresholdAt 16 = .ok (.ifCond .eq 9, 3) := by decide +kernel
theorem dX6_thresholdAt_19 : decode cX6_thresholdAt 19 = .ok (.iinc 3 1, 3) := by decide +kernel
theorem dX6_thresholdAt_22 : decode cX6_thresholdAt 22 = .ok (.goto (-20), 3) := by decide +kernel
theorem dX6_thresholdAt_25 : decode cX6_thresholdAt 25 = .ok (.iload_n 3, 1) := by decide +kernel
theorem dX6_thresholdAt_26 : decode cX6_thresholdAt 26 = .ok (.ireturn, 1) := by decide +kernel
theorem dX6_rankThreshold_0 : decode cX6_rankThreshold 0 = .ok (.aload_n 0, 1) := by decide +kernel
theorem dX6_rankThreshold_1 : decode cX6_rankThreshold 1 = .ok (.iload_n 1, 1) := by decide +kernel
theorem dX6_rankThreshold_2 : decode cX6_rankThreshold 2 = .ok (.invokevirtual 172, 3) := by decide +kernel
theorem dX6_rankThreshold_5 : decode cX6_rankThreshold 5 = .ok (.ifCond .eq 15, 3) := by decide +kernel
theorem dX6_rankThreshold_8 : decode cX6_rankThreshold 8 = .ok (.iload_n 2, 1) := by decide +kernel
theorem dX6_rankThreshold_9 : decode cX6_rankThreshold 9 = .ok (.iconst 1, 1) := by decide +kernel
theorem dX6_rankThreshold_10 : decode cX6_rankThreshold 10 = .ok (.aload_n 0, 1) := by decide +kernel
theorem dX6_rankThreshold_11 : decode cX6_rankThreshold 11 = .ok (.invokevirtual 184, 3) := by decide +kernel
theorem dX6_rankThreshold_14 : decode cX6_rankThreshold 14 = .ok (.invokestatic 69, 3) := by decide +kernel
theorem dX6_rankThreshold_17 : decode cX6_rankThreshold 17 = .ok (.ifCond .ne 5, 3) := by decide +kernel
theorem dX6_rankThreshold_20 : decode cX6_rankThreshold 20 = .ok (.iconst (-1), 1) := by decide +kernel
theorem dX6_rankThreshold_21 : decode cX6_rankThreshold 21 = .ok (.ireturn, 1) := by decide +kernel
theorem dX6_rankThreshold_22 : decode cX6_rankThreshold 22 = .ok (.aload_n 0, 1) := by decide +kernel
theorem dX6_rankThreshold_23 : decode cX6_rankThreshold 23 = .ok (.invokevirtual 178, 3) := by decide +kernel
theorem dX6_rankThreshold_26 : decode cX6_rankThreshold 26 = .ok (.aload_n 0, 1) := by decide +kernel
theorem dX6_rankThreshold_27 : decode cX6_rankThreshold 27 = .ok (.iload_n 1, 1) := by decide +kernel
theorem dX6_rankThreshold_28 : decode cX6_rankThreshold 28 = .ok (.iload_n 2, 1) := by decide +kernel
theorem dX6_rankThreshold_29 : decode cX6_rankThreshold 29 = .ok (.invokevirtual 190, 3) := by decide +kernel
theorem dX6_rankThreshold_32 : decode cX6_rankThreshold 32 = .ok (.ireturn, 1) := by decide +kernel
theorem dX6_expects_0 : decode cX6_expects 0 = .ok (.aload_n 0, 1) := by decide +kernel
theorem dX6_expects_1 : decode cX6_expects 1 = .ok (.invokevirtual 123, 3) := by decide +kernel
theorem dX6_expects_4 : decode cX6_expects 4 = .ok (.iconst 1, 1) := by decide +kernel
theorem dX6_expects_5 : decode cX6_expects 5 = .ok (.iadd, 1) := by decide +kernel
theorem dX6_expects_6 : decode cX6_expects 6 = .ok (.istore_n 2, 1) := by decide +kernel
theorem dX6_expects_7 : decode cX6_expects 7 = .ok (.iload_n 2, 1) := by decide +kernel
theorem dX6_expects_8 : decode cX6_expects 8 = .ok (.ifCond .le 181, 3) := by decide +kernel
theorem dX6_expects_11 : decode cX6_expects 11 = .ok (.iconst 0, 1) := by decide +kernel
theorem dX6_expects_12 : decode cX6_expects 12 = .ok (.istore_n 3, 1) := by decide +kernel
theorem dX6_expects_13 : decode cX6_expects 13 = .ok (.iload_n 3, 1) := by decide +kernel
theorem dX6_expects_14 : decode cX6_expects 14 = .ok (.aload_n 0, 1) := by decide +kernel
theorem dX6_expects_15 : decode cX6_expects 15 = .ok (.invokevirtual 184, 3) := by decide +kernel
theorem dX6_expects_18 : decode cX6_expects 18 = .ok (.if_icmp .gt 165, 3) := by decide +kernel
theorem dX6_expects_21 : decode cX6_expects 21 = .ok (.lconst 0, 1) := by decide +kernel
theorem dX6_expects_22 : decode cX6_expects 22 = .ok (.lstore 4, 2) := by decide +kernel
theorem dX6_expects_24 : decode cX6_expects 24 = .ok (.aload_n 0, 1) := by decide +kernel
theorem dX6_expects_25 : decode cX6_expects 25 = .ok (.getfield 30, 3) := by decide +kernel
theorem dX6_expects_28 : decode cX6_expects 28 = .ok (.iload_n 2, 1) := by decide +kernel
theorem dX6_expects_29 : decode cX6_expects 29 = .ok (.iload_n 3, 1) := by decide +kernel
theorem dX6_expects_30 : decode cX6_expects 30 = .ok (.invokestatic 138, 3) := by decide +kernel
theorem dX6_expects_33 : decode cX6_expects 33 = .ok (.laload, 1) := by decide +kernel
theorem dX6_expects_34 : decode cX6_expects 34 = .ok (.lconst 0, 1) := by decide +kernel
theorem dX6_expects_35 : decode cX6_expects 35 = .ok (.lcmp, 1) := by decide +kernel
theorem dX6_expects_36 : decode cX6_expects 36 = .ok (.ifCond .le 7, 3) := by decide +kernel
theorem dX6_expects_39 : decode cX6_expects 39 = .ok (.iconst 1, 1) := by decide +kernel
theorem dX6_expects_40 : decode cX6_expects 40 = .ok (.goto 4, 3) := by decide +kernel
theorem dX6_expects_43 : decode cX6_expects 43 = .ok (.iconst 0, 1) := by decide +kernel
theorem dX6_expects_44 : decode cX6_expects 44 = .ok (.istore 6, 2) := by decide +kernel
theorem dX6_expects_46 : decode cX6_expects 46 = .ok (.iconst 1, 1) := by decide +kernel
theorem dX6_expects_47 : decode cX6_expects 47 = .ok (.istore 7, 2) := by decide +kernel
theorem dX6_expects_49 : decode cX6_expects 49 = .ok (.iload 7, 2) := by decide +kernel
theorem dX6_expects_51 : decode cX6_expects 51 = .ok (.iload_n 2, 1) := by decide +kernel
theorem dX6_expects_52 : decode cX6_expects 52 = .ok (.if_icmp .gt 70, 3) := by decide +kernel
theorem dX6_expects_55 : decode cX6_expects 55 = .ok (.iload 6, 2) := by decide +kernel
theorem dX6_expects_57 : decode cX6_expects 57 = .ok (.ifCond .eq 65, 3) := by decide +kernel
theorem dX6_expects_60 : decode cX6_expects 60 = .ok (.aload_n 0, 1) := by decide +kernel
theorem dX6_expects_61 : decode cX6_expects 61 = .ok (.iload_n 2, 1) := by decide +kernel
theorem dX6_expects_62 : decode cX6_expects 62 = .ok (.iload_n 3, 1) := by decide +kernel
theorem dX6_expects_63 : decode cX6_expects 63 = .ok (.iload 7, 2) := by decide +kernel
theorem dX6_expects_65 : decode cX6_expects 65 = .ok (.invokevirtual 187, 3) := by decide +kernel
theorem dX6_expects_68 : decode cX6_expects 68 = .ok (.istore 8, 2) := by decide +kernel
theorem dX6_expects_70 : decode cX6_expects 70 = .ok (.lload 4, 2) := by decide +kernel
theorem dX6_expects_72 : decode cX6_expects 72 = .ok (.aload_n 0, 1) := by decide +kernel
theorem dX6_expects_73 : decode cX6_expects 73 = .ok (.getfield 39, 3) := by decide +kernel
theorem dX6_expects_76 : decode cX6_expects 76 = .ok (.iload_n 2, 1) := by decide +kernel
theorem dX6_expects_77 : decode cX6_expects 77 = .ok (.iconst 1, 1) := by decide +kernel
theorem dX6_expects_78 : decode cX6_expects 78 = .ok (.iadd, 1) := by decide +kernel
theorem dX6_expects_79 : decode cX6_expects 79 = .ok (.iload 8, 2) := by decide +kernel
theorem dX6_expects_81 : decode cX6_expects 81 = .ok (.ifCond .eq 9, 3) := by decide +kernel
theorem dX6_expects_84 : decode cX6_expects 84 = .ok (.iload_n 3, 1) := by decide +kernel
theorem dX6_expects_85 : decode cX6_expects 85 = .ok (.iconst 1, 1) := by decide +kernel
theorem dX6_expects_86 : decode cX6_expects 86 = .ok (.isub, 1) := by decide +kernel
theorem dX6_expects_87 : decode cX6_expects 87 = .ok (.goto 4, 3) := by decide +kernel
theorem dX6_expects_90 : decode cX6_expects 90 = .ok (.iload_n 3, 1) := by decide +kernel
theorem dX6_expects_91 : decode cX6_expects 91 = .ok (.invokestatic 138, 3) := by decide +kernel
theorem dX6_expects_94 : decode cX6_expects 94 = .ok (.laload, 1) := by decide +kernel
theorem dX6_expects_95 : decode cX6_expects 95 = .ok (.iload_n 1, 1) := by decide +kernel
theorem dX6_expects_96 : decode cX6_expects 96 = .ok (.iconst 1, 1) := by decide +kernel
theorem dX6_expects_97 : decode cX6_expects 97 = .ok (.if_icmp .ne 14, 3) := by decide +kernel
theorem dX6_expects_100 : decode cX6_expects 100 = .ok (.iload 8, 2) := by decide +kernel
theorem dX6_expects_102 : decode cX6_expects 102 = .ok (.ifCond .eq 9, 3) := by decide +kernel
theorem dX6_expects_105 : decode cX6_expects 105 = .ok (.ldc2_w 130, 3) := by decide +kernel
theorem dX6_expects_108 : decode cX6_expects 108 = .ok (.goto 4, 3) := by decide +kernel
theorem dX6_expects_111 : decode cX6_expects 111 = .ok (.lconst 0, 1) := by decide +kernel
theorem dX6_expects_112 : decode cX6_expects 112 = .ok (.ladd, 1) := by decide +kernel
theorem dX6_expects_113 : decode cX6_expects 113 = .ok (.ladd, 1) := by decide +kernel
theorem dX6_expects_114 : decode cX6_expects 114 = .ok (.lstore 4, 2) := by decide +kernel
theorem dX6_expects_116 : decode cX6_expects 116 = .ok (.iinc 7 1, 3) := by decide +kernel
theorem dX6_expects_119 : decode cX6_expects 119 = .ok (.goto (-70), 3) := by decide +kernel
theorem dX6_expects_122 : decode cX6_expects 122 = .ok (.iload_n 1, 1) := by decide +kernel
theorem dX6_expects_123 : decode cX6_expects 123 = .ok (.iconst 2, 1) := by decide +kernel
theorem dX6_expects_124 : decode cX6_expects 124 = .ok (.if_icmp .ne 13, 3) := by decide +kernel
theorem dX6_expects_127 : decode cX6_expects 127 = .ok (.iload_n 3, 1) := by decide +kernel
theorem dX6_expects_128 : decode cX6_expects 128 = .ok (.ifCond .ne 9, 3) := by decide +kernel
theorem dX6_expects_131 : decode cX6_expects 131 = .ok (.ldc2_w 130, 3) := by decide +kernel
theorem dX6_expects_134 : decode cX6_expects 134 = .ok (.goto 4, 3) := by decide +kernel
theorem dX6_expects_137 : decode cX6_expects 137 = .ok (.lconst 0, 1) := by decide +kernel
theorem dX6_expects_138 : decode cX6_expects 138 = .ok (.lstore 7, 2) := by decide +kernel
theorem dX6_expects_140 : decode cX6_expects 140 = .ok (.aload_n 0, 1) := by decide +kernel
theorem dX6_expects_141 : decode cX6_expects 141 = .ok (.getfield 39, 3) := by decide +kernel
theorem dX6_expects_144 : decode cX6_expects 144 = .ok (.iload_n 2, 1) := by decide +kernel
theorem dX6_expects_145 : decode cX6_expects 145 = .ok (.iload_n 3, 1) := by decide +kernel
theorem dX6_expects_146 : decode cX6_expects 146 = .ok (.invokestatic 138, 3) := by decide +kernel
theorem dX6_expects_149 : decode cX6_expects 149 = .ok (.iload 6, 2) := by decide +kernel
theorem dX6_expects_151 : decode cX6_expects 151 = .ok (.ifCond .eq 23, 3) := by decide +kernel
theorem dX6_expects_154 : decode cX6_expects 154 = .ok (.lload 4, 2) := by decide +kernel
theorem dX6_expects_156 : decode cX6_expects 156 = .ok (.iload_n 2, 1) := by decide +kernel
theorem dX6_expects_157 : decode cX6_expects 157 = .ok (.i2l, 1) := by decide +kernel
theorem dX6_expects_158 : decode cX6_expects 158 = .ok (.ldiv, 1) := by decide +kernel
theorem dX6_expects_159 : decode cX6_expects 159 = .ok (.iload_n 1, 1) := by decide +kernel
theorem dX6_expects_160 : decode cX6_expects 160 = .ok (.ifCond .ne 9, 3) := by decide +kernel
theorem dX6_expects_163 : decode cX6_expects 163 = .ok (.ldc2_w 130, 3) := by decide +kernel
theorem dX6_expects_166 : decode cX6_expects 166 = .ok (.goto 4, 3) := by decide +kernel
theorem dX6_expects_169 : decode cX6_expects 169 = .ok (.lconst 0, 1) := by decide +kernel
theorem dX6_expects_170 : decode cX6_expects 170 = .ok (.ladd, 1) := by decide +kernel
theorem dX6_expects_171 : decode cX6_expects 171 = .ok (.goto 5, 3) := by decide +kernel
theorem dX6_expects_174 : decode cX6_expects 174 = .ok (.lload 7, 2) := by decide +kernel
theorem dX6_expects_176 : decode cX6_expects 176 = .ok (.lastore, 1) := by decide +kernel
theorem dX6_expects_177 : decode cX6_expects 177 = .ok (.iinc 3 1, 3) := by decide +kernel
theorem dX6_expects_180 : decode cX6_expects 180 = .ok (.goto (-167), 3) := by decide +kernel
theorem dX6_expects_183 : decode cX6_expects 183 = .ok (.iinc 2 (-1), 3) := by decide +kernel
theorem dX6_expects_186 : decode cX6_expects 186 = .ok (.goto (-179), 3) := by decide +kernel
theorem dX6_expects_189 : decode cX6_expects 189 = .ok (.aload_n 0, 1) := by decide +kernel
theorem dX6_expects_190 : decode cX6_expects 190 = .ok (.getfield 39, 3) := by decide +kernel
theorem dX6_expects_193 : decode cX6_expects 193 = .ok (.iconst 1, 1) := by decide +kernel
theorem dX6_expects_194 : decode cX6_expects 194 = .ok (.aload_n 0, 1) := by decide +kernel
theorem dX6_expects_195 : decode cX6_expects 195 = .ok (.invokevirtual 184, 3) := by decide +kernel
theorem dX6_expects_198 : decode cX6_expects 198 = .ok (.invokestatic 138, 3) := by decide +kernel
theorem dX6_expects_201 : decode cX6_expects 201 = .ok (.laload, 1) := by decide +kernel
theorem dX6_expects_202 : decode cX6_expects 202 = .ok (.lreturn, 1) := by decide +kernel
theorem dX6_rankExpectation_0 : decode cX6_rankExpectation 0 = .ok (.iload_n 1, 1) := by decide +kernel
theorem dX6_rankExpectation_1 : decode cX6_rankExpectation 1 = .ok (.iconst 0, 1) := by decide +kernel
theorem dX6_rankExpectation_2 : decode cX6_rankExpectation 2 = .ok (.iconst 2, 1) := by decide +kernel
theorem dX6_rankExpectation_3 : decode cX6_rankExpectation 3 = .ok (.invokestatic 69, 3) := by decide +kernel
theorem dX6_rankExpectation_6 : decode cX6_rankExpectation 6 = .ok (.ifCond .ne 7, 3) := by decide +kernel
theorem dX6_rankExpectation_9 : decode cX6_rankExpectation 9 = .ok (.ldc2_w 176, 3) := by decide +kernel
theorem dX6_rankExpectation_12 : decode cX6_rankExpectation 12 = .ok (.lreturn, 1) := by decide +kernel
theorem dX6_rankExpectation_13 : decode cX6_rankExpectation 13 = .ok (.aload_n 0, 1) := by decide +kernel
theorem dX6_rankExpectation_14 : decode cX6_rankExpectation 14 = .ok (.invokevirtual 178, 3) := by decide +kernel
theorem dX6_rankExpectation_17 : decode cX6_rankExpectation 17 = .ok (.aload_n 0, 1) := by decide +kernel
theorem dX6_rankExpectation_18 : decode cX6_rankExpectation 18 = .ok (.aload_n 0, 1) := by decide +kernel
theorem dX6_rankExpectation_19 : decode cX6_rankExpectation 19 = .ok (.iload_n 1, 1) := by decide +kernel
theorem dX6_rankExpectation_20 : decode cX6_rankExpectation 20 = .ok (.invokevirtual 193, 3) := by decide +kernel
theorem dX6_rankExpectation_23 : decode cX6_rankExpectation 23 = .ok (.ldc2_w 130, 3) := by decide +kernel
theorem dX6_rankExpectation_26 : decode cX6_rankExpectation 26 = .ok (.invokevirtual 181, 3) := by decide +kernel
theorem dX6_rankExpectation_29 : decode cX6_rankExpectation 29 = .ok (.lreturn, 1) := by decide +kernel
theorem dX6_skips__0 : decode cX6_skips_ 0 = .ok (.aload_n 0, 1) := by decide +kernel
theorem dX6_skips__1 : decode cX6_skips_ 1 = .ok (.invokevirtual 123, 3) := by decide +kernel
theorem dX6_skips__4 : decode cX6_skips_ 4 = .ok (.iconst 1, 1) := by decide +kernel
theorem dX6_skips__5 : decode cX6_skips_ 5 = .ok (.iadd, 1) := by decide +kernel
theorem dX6_skips__6 : decode cX6_skips_ 6 = .ok (.istore_n 2, 1) := by decide +kernel
theorem dX6_skips__7 : decode cX6_skips_ 7 = .ok (.iload_n 2, 1) := by decide +kernel
theorem dX6_skips__8 : decode cX6_skips_ 8 = .ok (.ifCond .le 131, 3) := by decide +kernel
theorem dX6_skips__11 : decode cX6_skips_ 11 = .ok (.iconst 0, 1) := by decide +kernel
theorem dX6_skips__12 : decode cX6_skips_ 12 = .ok (.istore_n 3, 1) := by decide +kernel
theorem dX6_skips__13 : decode cX6_skips_ 13 = .ok (.iload_n 3, 1) := by decide +kernel
theorem dX6_skips__14 : decode cX6_skips_ 14 = .ok (.aload_n 0, 1) := by decide +kernel
theorem dX6_skips__15 : decode cX6_skips_ 15 = .ok (.invokevirtual 184, 3) := by decide +kernel
theorem dX6_skips__18 : decode cX6_skips_ 18 = .ok (.if_icmp .gt 115, 3) := by decide +kernel
theorem dX6_skips__21 : decode cX6_skips_ 21 = .ok (.lconst 0, 1) := by decide +kernel
theorem dX6_skips__22 : decode cX6_skips_ 22 = .ok (.lstore 4, 2) := by decide +kernel
theorem dX6_skips__24 : decode cX6_skips_ 24 = .ok (.iload_n 3, 1) := by decide +kernel
theorem dX6_skips__25 : decode cX6_skips_ 25 = .ok (.ifCond .le 90, 3) := by decide +kernel
theorem dX6_skips__28 : decode cX6_skips_ 28 = .ok (.iload_n 2, 1) := by decide +kernel
theorem dX6_skips__29 : decode cX6_skips_ 29 = .ok (.aload_n 0, 1) := by decide +kernel
theorem dX6_skips__30 : decode cX6_skips_ 30 = .ok (.invokevirtual 123, 3) := by decide +kernel
theorem dX6_skips__33 : decode cX6_skips_ 33 = .ok (.if_icmp .gt 82, 3) := by decide +kernel
theorem dX6_skips__36 : decode cX6_skips_ 36 = .ok (.aload_n 0, 1) := by decide +kernel
theorem dX6_skips__37 : decode cX6_skips_ 37 = .ok (.getfield 39, 3) := by decide +kernel
theorem dX6_skips__40 : decode cX6_skips_ 40 = .ok (.iload_n 2, 1) := by decide +kernel
theorem dX6_skips__41 : decode cX6_skips_ 41 = .ok (.iconst 1, 1) := by decide +kernel
theorem dX6_skips__42 : decode cX6_skips_ 42 = .ok (.iadd, 1) := by decide +kernel
theorem dX6_skips__43 : decode cX6_skips_ 43 = .ok (.iload_n 3, 1) := by decide +kernel
theorem dX6_skips__44 : decode cX6_skips_ 44 = .ok (.invokestatic 138, 3) := by decide +kernel
theorem dX6_skips__47 : decode cX6_skips_ 47 = .ok (.laload, 1) := by decide +kernel
theorem dX6_skips__48 : decode cX6_skips_ 48 = .ok (.lstore 6, 2) := by decide +kernel
theorem dX6_skips__50 : decode cX6_skips_ 50 = .ok (.iload_n 2, 1) := by decide +kernel
theorem dX6_skips__51 : decode cX6_skips_ 51 = .ok (.iload_n 1, 1) := by decide +kernel
theorem dX6_skips__52 : decode cX6_skips_ 52 = .ok (.if_icmp .gt 8, 3) := by decide +kernel
theorem dX6_skips__55 : decode cX6_skips_ 55 = .ok (.lload 6, 2) := by decide +kernel
theorem dX6_skips__57 : decode cX6_skips_ 57 = .ok (.goto 40, 3) := by decide +kernel
theorem dX6_skips__60 : decode cX6_skips_ 60 = .ok (.aload_n 0, 1) := by decide +kernel
theorem dX6_skips__61 : decode cX6_skips_ 61 = .ok (.getfield 26, 3) := by decide +kernel
theorem dX6_skips__64 : decode cX6_skips_ 64 = .ok (.bipush 8, 2) := by decide +kernel
theorem dX6_skips__66 : decode cX6_skips_ 66 = .ok (.iload_n 2, 1) := by decide +kernel
theorem dX6_skips__67 : decode cX6_skips_ 67 = .ok (.imul, 1) := by decide +kernel
theorem dX6_skips__68 : decode cX6_skips_ 68 = .ok (.iconst 1, 1) := by decide +kernel
theorem dX6_skips__69 : decode cX6_skips_ 69 = .ok (.iadd, 1) := by decide +kernel
theorem dX6_skips__70 : decode cX6_skips_ 70 = .ok (.laload, 1) := by decide +kernel
theorem dX6_skips__71 : decode cX6_skips_ 71 = .ok (.aload_n 0, 1) := by decide +kernel
theorem dX6_skips__72 : decode cX6_skips_ 72 = .ok (.getfield 39, 3) := by decide +kernel
theorem dX6_skips__75 : decode cX6_skips_ 75 = .ok (.iload_n 2, 1) := by decide +kernel
theorem dX6_skips__76 : decode cX6_skips_ 76 = .ok (.iconst 1, 1) := by decide +kernel
theorem dX6_skips__77 : decode cX6_skips_ 77 = .ok (.iadd, 1) := by decide +kernel
theorem dX6_skips__78 : decode cX6_skips_ 78 = .ok (.iload_n 3, 1) := by decide +kernel
theorem dX6_skips__79 : decode cX6_skips_ 79 = .ok (.iconst 1, 1) := by decide +kernel
theorem dX6_skips__80 : decode cX6_skips_ 80 = .ok (.isub, 1) := by decide +kernel
theorem dX6_skips__81 : decode cX6_skips_ 81 = .ok (.invokestatic 138, 3) := by decide +kernel
theorem dX6_skips__84 : decode cX6_skips_ 84 = .ok (.laload, 1) := by decide +kernel
theorem dX6_skips__85 : decode cX6_skips_ 85 = .ok (.ladd, 1) := by decide +kernel
theorem dX6_skips__86 : decode cX6_skips_ 86 = .ok (.iload_n 2, 1) := by decide +kernel
theorem dX6_skips__87 : decode cX6_skips_ 87 = .ok (.iconst 1, 1) := by decide +kernel
theorem dX6_skips__88 : decode cX6_skips_ 88 = .ok (.isub, 1) := by decide +kernel
theorem dX6_skips__89 : decode cX6_skips_ 89 = .ok (.i2l, 1) := by decide +kernel
theorem dX6_skips__90 : decode cX6_skips_ 90 = .ok (.lload 6, 2) := by decide +kernel
theorem dX6_skips__92 : decode cX6_skips_ 92 = .ok (.lmul, 1) := by decide +kernel
theorem dX6_skips__93 : decode cX6_skips_ 93 = .ok (.ladd, 1) := by decide +kernel
theorem dX6_skips__94 : decode cX6_skips_ 94 = .ok (.iload_n 2, 1) := by decide +kernel
theorem dX6_skips__95 : decode cX6_skips_ 95 = .ok (.i2l, 1) := by decide +kernel
theorem dX6_skips__96 : decode cX6_skips_ 96 = .ok (.ldiv, 1) := by decide +kernel
theorem dX6_skips__97 : decode cX6_skips_ 97 = .ok (.lstore 4, 2) := by decide +kernel
theorem dX6_skips__99 : decode cX6_skips_ 99 = .ok (.lload 4, 2) := by decide +kernel
theorem dX6_skips__101 : decode cX6_skips_ 101 = .ok (.ldc2_w 130, 3) := by decide +kernel
theorem dX6_skips__104 : decode cX6_skips_ 104 = .ok (.aload_n 0, 1) := by decide +kernel
theorem dX6_skips__105 : decode cX6_skips_ 105 = .ok (.getfield 7, 3) := by decide +kernel
theorem dX6_skips__108 : decode cX6_skips_ 108 = .ok (.iconst 2, 1) := by decide +kernel
theorem dX6_skips__109 : decode cX6_skips_ 109 = .ok (.iaload, 1) := by decide +kernel
theorem dX6_skips__110 : decode cX6_skips_ 110 = .ok (.i2l, 1) := by decide +kernel
theorem dX6_skips__111 : decode cX6_skips_ 111 = .ok (.lmul, 1) := by decide +kernel
theorem dX6_skips__112 : decode cX6_skips_ 112 = .ok (.lsub, 1) := by decide +kernel
theorem dX6_skips__113 : decode cX6_skips_ 113 = .ok (.lstore 4, 2) := by decide +kernel
theorem dX6_skips__115 : decode cX6_skips_ 115 = .ok (.aload_n 0, 1) := by decide +kernel
theorem dX6_skips__116 : decode cX6_skips_ 116 = .ok (.getfield 39, 3) := by decide +kernel
theorem dX6_skips__119 : decode cX6_skips_ 119 = .ok (.iload_n 2, 1) := by decide +kernel
theorem dX6_skips__120 : decode cX6_skips_ 120 = .ok (.iload_n 3, 1) := by decide +kernel
theorem dX6_skips__121 : decode cX6_skips_ 121 = .ok (.invokestatic 138, 3) := by decide +kernel
theorem dX6_skips__124 : decode cX6_skips_ 124 = .ok (.lload 4, 2) := by decide +kernel
theorem dX6_skips__126 : decode cX6_skips_ 126 = .ok (.lastore, 1) := by decide +kernel
theorem dX6_skips__127 : decode cX6_skips_ 127 = .ok (.iinc 3 1, 3) := by decide +kernel
theorem dX6_skips__130 : decode cX6_skips_ 130 = .ok (.goto (-117), 3) := by decide +kernel
theorem dX6_skips__133 : decode cX6_skips_ 133 = .ok (.iinc 2 (-1), 3) := by decide +kernel
theorem dX6_skips__136 : decode cX6_skips_ 136 = .ok (.goto (-129), 3) := by decide +kernel
theorem dX6_skips__139 : decode cX6_skips_ 139 = .ok (.aload_n 0, 1) := by decide +kernel
theorem dX6_skips__140 : decode cX6_skips_ 140 = .ok (.getfield 39, 3) := by decide +kernel
theorem dX6_skips__143 : decode cX6_skips_ 143 = .ok (.iconst 1, 1) := by decide +kernel
theorem dX6_skips__144 : decode cX6_skips_ 144 = .ok (.aload_n 0, 1) := by decide +kernel
theorem dX6_skips__145 : decode cX6_skips_ 145 = .ok (.invokevirtual 184, 3) := by decide +kernel
theorem dX6_skips__148 : decode cX6_skips_ 148 = .ok (.invokestatic 138, 3) := by decide +kernel
theorem dX6_skips__151 : decode cX6_skips_ 151 = .ok (.laload, 1) := by decide +kernel
theorem dX6_skips__152 : decode cX6_skips_ 152 = .ok (.lreturn, 1) := by decide +kernel
theorem dX6_skipping_0 : decode cX6_skipping 0 = .ok (.iload_n 1, 1) := by decide +kernel
theorem dX6_skipping_1 : decode cX6_skipping 1 = .ok (.iconst 0, 1) := by decide +kernel
theorem dX6_skipping_2 : decode cX6_skipping 2 = .ok (.aload_n 0, 1) := by decide +kernel
theorem dX6_skipping_3 : decode cX6_skipping 3 = .ok (.invokevirtual 123, 3) := by decide +kernel
theorem dX6_skipping_6 : decode cX6_skipping 6 = .ok (.invokestatic 69, 3) := by decide +kernel
theorem dX6_skipping_9 : decode cX6_skipping 9 = .ok (.ifCond .ne 7, 3) := by decide +kernel
theorem dX6_skipping_12 : decode cX6_skipping 12 = .ok (.ldc2_w 176, 3) := by decide +kernel
theorem dX6_skipping_15 : decode cX6_skipping 15 = .ok (.lreturn, 1) := by decide +kernel
theorem dX6_skipping_16 : decode cX6_skipping 16 = .ok (.aload_n 0, 1) := by decide +kernel
theorem dX6_skipping_17 : decode cX6_skipping 17 = .ok (.invokevirtual 178, 3) := by decide +kernel
theorem dX6_skipping_20 : decode cX6_skipping 20 = .ok (.aload_n 0, 1) := by decide +kernel
theorem dX6_skipping_21 : decode cX6_skipping 21 = .ok (.aload_n 0, 1) := by decide +kernel
theorem dX6_skipping_22 : decode cX6_skipping 22 = .ok (.iload_n 1, 1) := by decide +kernel
theorem dX6_skipping_23 : decode cX6_skipping 23 = .ok (.invokevirtual 197, 3) := by decide +kernel
theorem dX6_skipping_26 : decode cX6_skipping 26 = .ok (.ldc2_w 130, 3) := by decide +kernel
theorem dX6_skipping_29 : decode cX6_skipping 29 = .ok (.invokevirtual 181, 3) := by decide +kernel
theorem dX6_skipping_32 : decode cX6_skipping 32 = .ok (.lreturn, 1) := by decide +kernel
theorem dX6_bestSkip_0 : decode cX6_bestSkip 0 = .ok (.aload_n 0, 1) := by decide +kernel
theorem dX6_bestSkip_1 : decode cX6_bestSkip 1 = .ok (.invokevirtual 178, 3) := by decide +kernel
theorem dX6_bestSkip_4 : decode cX6_bestSkip 4 = .ok (.iconst 0, 1) := by decide +kernel
theorem dX6_bestSkip_5 : decode cX6_bestSkip 5 = .ok (.istore_n 1, 1) := by decide +kernel
theorem dX6_bestSkip_6 : decode cX6_bestSkip 6 = .ok (.iconst 1, 1) := by decide +kernel
theorem dX6_bestSkip_7 : decode cX6_bestSkip 7 = .ok (.istore_n 2, 1) := by decide +kernel
theorem dX6_bestSkip_8 : decode cX6_bestSkip 8 = .ok (.iload_n 2, 1) := by decide +kernel
theorem dX6_bestSkip_9 : decode cX6_bestSkip 9 = .ok (.aload_n 0, 1) := by decide +kernel
theorem dX6_bestSkip_10 : decode cX6_bestSkip 10 = .ok (.invokevirtual 123, 3) := by decide +kernel
theorem dX6_bestSkip_13 : decode cX6_bestSkip 13 = .ok (.if_icmp .gt 29, 3) := by decide +kernel
theorem dX6_bestSkip_16 : decode cX6_bestSkip 16 = .ok (.aload_n 0, 1) := by decide +kernel
theorem dX6_bestSkip_17 : decode cX6_bestSkip 17 = .ok (.iload_n 2, 1) := by decide +kernel
theorem dX6_bestSkip_18 : decode cX6_bestSkip 18 = .ok (.invokevirtual 197, 3) := by decide +kernel
theorem dX6_bestSkip_21 : decode cX6_bestSkip 21 = .ok (.aload_n 0, 1) := by decide +kernel
theorem dX6_bestSkip_22 : decode cX6_bestSkip 22 = .ok (.iload_n 1, 1) := by decide +kernel
theorem dX6_bestSkip_23 : decode cX6_bestSkip 23 = .ok (.invokevirtual 197, 3) := by decide +kernel
theorem dX6_bestSkip_26 : decode cX6_bestSkip 26 = .ok (.lcmp, 1) := by decide +kernel
theorem dX6_bestSkip_27 : decode cX6_bestSkip 27 = .ok (.ifCond .le 7, 3) := by decide +kernel
theorem dX6_bestSkip_30 : decode cX6_bestSkip 30 = .ok (.iload_n 2, 1) := by decide +kernel
theorem dX6_bestSkip_31 : decode cX6_bestSkip 31 = .ok (.goto 4, 3) := by decide +kernel
theorem dX6_bestSkip_34 : decode cX6_bestSkip 34 = .ok (.iload_n 1, 1) := by decide +kernel
theorem dX6_bestSkip_35 : decode cX6_bestSkip 35 = .ok (.istore_n 1, 1) := by decide +kernel
theorem dX6_bestSkip_36 : decode cX6_bestSkip 36 = .ok (.iinc 2 1, 3) := by decide +kernel
theorem dX6_bestSkip_39 : decode cX6_bestSkip 39 = .ok (.goto (-31), 3) := by decide +kernel
theorem dX6_bestSkip_42 : decode cX6_bestSkip 42 = .ok (.iload_n 1, 1) := by decide +kernel
theorem dX6_bestSkip_43 : decode cX6_bestSkip 43 = .ok (.ireturn, 1) := by decide +kernel
theorem dX6_isSituation_0 : decode cX6_isSituation 0 = .ok (.iload_n 1, 1) := by decide +kernel
theorem dX6_isSituation_1 : decode cX6_isSituation 1 = .ok (.iconst 1, 1) := by decide +kernel
theorem dX6_isSituation_2 : decode cX6_isSituation 2 = .ok (.aload_n 0, 1) := by decide +kernel
theorem dX6_isSituation_3 : decode cX6_isSituation 3 = .ok (.invokevirtual 123, 3) := by decide +kernel
theorem dX6_isSituation_6 : decode cX6_isSituation 6 = .ok (.iconst 1, 1) := by decide +kernel
theorem dX6_isSituation_7 : decode cX6_isSituation 7 = .ok (.iadd, 1) := by decide +kernel
theorem dX6_isSituation_8 : decode cX6_isSituation 8 = .ok (.invokestatic 69, 3) := by decide +kernel
theorem dX6_isSituation_11 : decode cX6_isSituation 11 = .ok (.ifCond .eq 38, 3) := by decide +kernel
theorem dX6_isSituation_14 : decode cX6_isSituation 14 = .ok (.iload_n 2, 1) := by decide +kernel
theorem dX6_isSituation_15 : decode cX6_isSituation 15 = .ok (.iconst 0, 1) := by decide +kernel
theorem dX6_isSituation_16 : decode cX6_isSituation 16 = .ok (.aload_n 0, 1) := by decide +kernel
theorem dX6_isSituation_17 : decode cX6_isSituation 17 = .ok (.invokevirtual 184, 3) := by decide +kernel
theorem dX6_isSituation_20 : decode cX6_isSituation 20 = .ok (.invokestatic 69, 3) := by decide +kernel
theorem dX6_isSituation_23 : decode cX6_isSituation 23 = .ok (.ifCond .eq 26, 3) := by decide +kernel
theorem dX6_isSituation_26 : decode cX6_isSituation 26 = .ok (.iload_n 3, 1) := by decide +kernel
theorem dX6_isSituation_27 : decode cX6_isSituation 27 = .ok (.iconst 0, 1) := by decide +kernel
theorem dX6_isSituation_28 : decode cX6_isSituation 28 = .ok (.iconst 5, 1) := by decide +kernel
theorem dX6_isSituation_29 : decode cX6_isSituation 29 = .ok (.invokestatic 69, 3) := by decide +kernel
theorem dX6_isSituation_32 : decode cX6_isSituation 32 = .ok (.ifCond .eq 17, 3) := by decide +kernel
theorem dX6_isSituation_35 : decode cX6_isSituation 35 = .ok (.iload 4, 2) := by decide +kernel
theorem dX6_isSituation_37 : decode cX6_isSituation 37 = .ok (.iconst 0, 1) := by decide +kernel
theorem dX6_isSituation_38 : decode cX6_isSituation 38 = .ok (.iconst 5, 1) := by decide +kernel
theorem dX6_isSituation_39 : decode cX6_isSituation 39 = .ok (.invokestatic 69, 3) := by decide +kernel
theorem dX6_isSituation_42 : decode cX6_isSituation 42 = .ok (.ifCond .eq 7, 3) := by decide +kernel
theorem dX6_isSituation_45 : decode cX6_isSituation 45 = .ok (.iconst 1, 1) := by decide +kernel
theorem dX6_isSituation_46 : decode cX6_isSituation 46 = .ok (.goto 4, 3) := by decide +kernel
theorem dX6_isSituation_49 : decode cX6_isSituation 49 = .ok (.iconst 0, 1) := by decide +kernel
theorem dX6_isSituation_50 : decode cX6_isSituation 50 = .ok (.ireturn, 1) := by decide +kernel
theorem dX6_situation_0 : decode cX6_situation 0 = .ok (.aload_n 0, 1) := by decide +kernel
theorem dX6_situation_1 : decode cX6_situation 1 = .ok (.iload_n 1, 1) := by decide +kernel
theorem dX6_situation_2 : decode cX6_situation 2 = .ok (.iload_n 2, 1) := by decide +kernel
theorem dX6_situation_3 : decode cX6_situation 3 = .ok (.iload_n 3, 1) := by decide +kernel
theorem dX6_situation_4 : decode cX6_situation 4 = .ok (.iload 4, 2) := by decide +kernel
theorem dX6_situation_6 : decode cX6_situation 6 = .ok (.invokevirtual 199, 3) := by decide +kernel
theorem dX6_situation_9 : decode cX6_situation 9 = .ok (.ifCond .ne 7, 3) := by decide +kernel
theorem dX6_situation_12 : decode cX6_situation 12 = .ok (.ldc2_w 176, 3) := by decide +kernel
theorem dX6_situation_15 : decode cX6_situation 15 = .ok (.lreturn, 1) := by decide +kernel
theorem dX6_situation_16 : decode cX6_situation 16 = .ok (.aload_n 0, 1) := by decide +kernel
theorem dX6_situation_17 : decode cX6_situation 17 = .ok (.invokevirtual 178, 3) := by decide +kernel
theorem dX6_situation_20 : decode cX6_situation 20 = .ok (.aload_n 0, 1) := by decide +kernel
theorem dX6_situation_21 : decode cX6_situation 21 = .ok (.aload_n 0, 1) := by decide +kernel
theorem dX6_situation_22 : decode cX6_situation 22 = .ok (.getfield 33, 3) := by decide +kernel
theorem dX6_situation_25 : decode cX6_situation 25 = .ok (.iload_n 1, 1) := by decide +kernel
theorem dX6_situation_26 : decode cX6_situation 26 = .ok (.iload_n 2, 1) := by decide +kernel
theorem dX6_situation_27 : decode cX6_situation 27 = .ok (.iload_n 3, 1) := by decide +kernel
theorem dX6_situation_28 : decode cX6_situation 28 = .ok (.iload 4, 2) := by decide +kernel
theorem dX6_situation_30 : decode cX6_situation 30 = .ok (.invokestatic 148, 3) := by decide +kernel
theorem dX6_situation_33 : decode cX6_situation 33 = .ok (.laload, 1) := by decide +kernel
theorem dX6_situation_34 : decode cX6_situation 34 = .ok (.ldc2_w 146, 3) := by decide +kernel
theorem dX6_situation_37 : decode cX6_situation 37 = .ok (.invokevirtual 181, 3) := by decide +kernel
theorem dX6_situation_40 : decode cX6_situation 40 = .ok (.lreturn, 1) := by decide +kernel
theorem dX6_recallOf_0 : decode cX6_recallOf 0 = .ok (.aload_n 0, 1) := by decide +kernel
theorem dX6_recallOf_1 : decode cX6_recallOf 1 = .ok (.getfield 33, 3) := by decide +kernel
theorem dX6_recallOf_4 : decode cX6_recallOf 4 = .ok (.iload_n 1, 1) := by decide +kernel
theorem dX6_recallOf_5 : decode cX6_recallOf 5 = .ok (.iload_n 2, 1) := by decide +kernel
theorem dX6_recallOf_6 : decode cX6_recallOf 6 = .ok (.iload_n 3, 1) := by decide +kernel
theorem dX6_recallOf_7 : decode cX6_recallOf 7 = .ok (.iload 4, 2) := by decide +kernel
theorem dX6_recallOf_9 : decode cX6_recallOf 9 = .ok (.invokestatic 148, 3) := by decide +kernel
theorem dX6_recallOf_12 : decode cX6_recallOf 12 = .ok (.laload, 1) := by decide +kernel
theorem dX6_recallOf_13 : decode cX6_recallOf 13 = .ok (.lstore 5, 2) := by decide +kernel
theorem dX6_recallOf_15 : decode cX6_recallOf 15 = .ok (.iload_n 2, 1) := by decide +kernel
theorem dX6_recallOf_16 : decode cX6_recallOf 16 = .ok (.ifCond .eq 22, 3) := by decide +kernel
theorem dX6_recallOf_19 : decode cX6_recallOf 19 = .ok (.aload_n 0, 1) := by decide +kernel
theorem dX6_recallOf_20 : decode cX6_recallOf 20 = .ok (.getfield 36, 3) := by decide +kernel
theorem dX6_recallOf_23 : decode cX6_recallOf 23 = .ok (.iload_n 1, 1) := by decide +kernel
theorem dX6_recallOf_24 : decode cX6_recallOf 24 = .ok (.iload_n 2, 1) := by decide +kernel
theorem dX6_recallOf_25 : decode cX6_recallOf 25 = .ok (.iload_n 3, 1) := by decide +kernel
theorem dX6_recallOf_26 : decode cX6_recallOf 26 = .ok (.iload 4, 2) := by decide +kernel
theorem dX6_recallOf_28 : decode cX6_recallOf 28 = .ok (.invokestatic 148, 3) := by decide +kernel
theorem dX6_recallOf_31 : decode cX6_recallOf 31 = .ok (.laload, 1) := by decide +kernel
theorem dX6_recallOf_32 : decode cX6_recallOf 32 = .ok (.lload 5, 2) := by decide +kernel
theorem dX6_recallOf_34 : decode cX6_recallOf 34 = .ok (.lcmp, 1) := by decide +kernel
theorem dX6_recallOf_35 : decode cX6_recallOf 35 = .ok (.ifCond .ne 7, 3) := by decide +kernel
theorem dX6_recallOf_38 : decode cX6_recallOf 38 = .ok (.iconst 0, 1) := by decide +kernel
theorem dX6_recallOf_39 : decode cX6_recallOf 39 = .ok (.goto 24, 3) := by decide +kernel
theorem dX6_recallOf_42 : decode cX6_recallOf 42 = .ok (.aload_n 0, 1) := by decide +kernel
theorem dX6_recallOf_43 : decode cX6_recallOf 43 = .ok (.iload_n 1, 1) := by decide +kernel
theorem dX6_recallOf_44 : decode cX6_recallOf 44 = .ok (.iload_n 2, 1) := by decide +kernel
theorem dX6_recallOf_45 : decode cX6_recallOf 45 = .ok (.iload_n 3, 1) := by decide +kernel
theorem dX6_recallOf_46 : decode cX6_recallOf 46 = .ok (.iload 4, 2) := by decide +kernel
theorem dX6_recallOf_48 : decode cX6_recallOf 48 = .ok (.iconst 1, 1) := by decide +kernel
theorem dX6_recallOf_49 : decode cX6_recallOf 49 = .ok (.invokevirtual 162, 3) := by decide +kernel
theorem dX6_recallOf_52 : decode cX6_recallOf 52 = .ok (.lload 5, 2) := by decide +kernel
theorem dX6_recallOf_54 : decode cX6_recallOf 54 = .ok (.lcmp, 1) := by decide +kernel
theorem dX6_recallOf_55 : decode cX6_recallOf 55 = .ok (.ifCond .ne 7, 3) := by decide +kernel
theorem dX6_recallOf_58 : decode cX6_recallOf 58 = .ok (.iconst 1, 1) := by decide +kernel
theorem dX6_recallOf_59 : decode cX6_recallOf 59 = .ok (.goto 4, 3) := by decide +kernel
theorem dX6_recallOf_62 : decode cX6_recallOf 62 = .ok (.iconst 2, 1) := by decide +kernel
theorem dX6_recallOf_63 : decode cX6_recallOf 63 = .ok (.ireturn, 1) := by decide +kernel
theorem dX6_recalls_0 : decode cX6_recalls 0 = .ok (.aload_n 0, 1) := by decide +kernel
theorem dX6_recalls_1 : decode cX6_recalls 1 = .ok (.iload_n 1, 1) := by decide +kernel
theorem dX6_recalls_2 : decode cX6_recalls 2 = .ok (.iload_n 2, 1) := by decide +kernel
theorem dX6_recalls_3 : decode cX6_recalls 3 = .ok (.iload_n 3, 1) := by decide +kernel
theorem dX6_recalls_4 : decode cX6_recalls 4 = .ok (.iload 4, 2) := by decide +kernel
theorem dX6_recalls_6 : decode cX6_recalls 6 = .ok (.invokevirtual 199, 3) := by decide +kernel
theorem dX6_recalls_9 : decode cX6_recalls 9 = .ok (.ifCond .ne 5, 3) := by decide +kernel
theorem dX6_recalls_12 : decode cX6_recalls 12 = .ok (.iconst (-1), 1) := by decide +kernel
theorem dX6_recalls_13 : decode cX6_recalls 13 = .ok (.ireturn, 1) := by decide +kernel
theorem dX6_recalls_14 : decode cX6_recalls 14 = .ok (.aload_n 0, 1) := by decide +kernel
theorem dX6_recalls_15 : decode cX6_recalls 15 = .ok (.invokevirtual 178, 3) := by decide +kernel
theorem dX6_recalls_18 : decode cX6_recalls 18 = .ok (.aload_n 0, 1) := by decide +kernel
theorem dX6_recalls_19 : decode cX6_recalls 19 = .ok (.iload_n 1, 1) := by decide +kernel
theorem dX6_recalls_20 : decode cX6_recalls 20 = .ok (.iload_n 2, 1) := by decide +kernel
theorem dX6_recalls_21 : decode cX6_recalls 21 = .ok (.iload_n 3, 1) := by decide +kernel
theorem dX6_recalls_22 : decode cX6_recalls 22 = .ok (.iload 4, 2) := by decide +kernel
theorem dX6_recalls_24 : decode cX6_recalls 24 = .ok (.invokevirtual 203, 3) := by decide +kernel
theorem dX6_recalls_27 : decode cX6_recalls 27 = .ok (.ireturn, 1) := by decide +kernel
theorem dX6_observes_0 : decode cX6_observes 0 = .ok (.aload_n 0, 1) := by decide +kernel
theorem dX6_observes_1 : decode cX6_observes 1 = .ok (.iload_n 1, 1) := by decide +kernel
theorem dX6_observes_2 : decode cX6_observes 2 = .ok (.iload_n 2, 1) := by decide +kernel
theorem dX6_observes_3 : decode cX6_observes 3 = .ok (.iload_n 3, 1) := by decide +kernel
theorem dX6_observes_4 : decode cX6_observes 4 = .ok (.iload 4, 2) := by decide +kernel
theorem dX6_observes_6 : decode cX6_observes 6 = .ok (.invokevirtual 199, 3) := by decide +kernel
theorem dX6_observes_9 : decode cX6_observes 9 = .ok (.ifCond .ne 5, 3) := by decide +kernel
theorem dX6_observes_12 : decode cX6_observes 12 = .ok (.iconst (-1), 1) := by decide +kernel
theorem dX6_observes_13 : decode cX6_observes 13 = .ok (.ireturn, 1) := by decide +kernel
theorem dX6_observes_14 : decode cX6_observes 14 = .ok (.aload_n 0, 1) := by decide +kernel
theorem dX6_observes_15 : decode cX6_observes 15 = .ok (.invokevirtual 178, 3) := by decide +kernel
theorem dX6_observes_18 : decode cX6_observes 18 = .ok (.aload_n 0, 1) := by decide +kernel
theorem dX6_observes_19 : decode cX6_observes 19 = .ok (.getfield 36, 3) := by decide +kernel
theorem dX6_observes_22 : decode cX6_observes 22 = .ok (.iload_n 1, 1) := by decide +kernel
theorem dX6_observes_23 : decode cX6_observes 23 = .ok (.iload_n 2, 1) := by decide +kernel
theorem dX6_observes_24 : decode cX6_observes 24 = .ok (.iload_n 3, 1) := by decide +kernel
theorem dX6_observes_25 : decode cX6_observes 25 = .ok (.iload 4, 2) := by decide +kernel
theorem dX6_observes_27 : decode cX6_observes 27 = .ok (.invokestatic 148, 3) := by decide +kernel
theorem dX6_observes_30 : decode cX6_observes 30 = .ok (.laload, 1) := by decide +kernel
theorem dX6_observes_31 : decode cX6_observes 31 = .ok (.lconst 0, 1) := by decide +kernel
theorem dX6_observes_32 : decode cX6_observes 32 = .ok (.lcmp, 1) := by decide +kernel
theorem dX6_observes_33 : decode cX6_observes 33 = .ok (.ifCond .le 7, 3) := by decide +kernel
theorem dX6_observes_36 : decode cX6_observes 36 = .ok (.iconst 1, 1) := by decide +kernel
theorem dX6_observes_37 : decode cX6_observes 37 = .ok (.goto 4, 3) := by decide +kernel
theorem dX6_observes_40 : decode cX6_observes 40 = .ok (.iconst 0, 1) := by decide +kernel
theorem dX6_observes_41 : decode cX6_observes 41 = .ok (.ireturn, 1) := by decide +kernel
theorem dX6_isTaken_0 : decode cX6_isTaken 0 = .ok (.aload_n 0, 1) := by decide +kernel
theorem dX6_isTaken_1 : decode cX6_isTaken 1 = .ok (.iload 4, 2) := by decide +kernel
theorem dX6_isTaken_3 : decode cX6_isTaken 3 = .ok (.invokevirtual 143, 3) := by decide +kernel
theorem dX6_isTaken_6 : decode cX6_isTaken 6 = .ok (.i2l, 1) := by decide +kernel
theorem dX6_isTaken_7 : decode cX6_isTaken 7 = .ok (.ldc2_w 146, 3) := by decide +kernel
theorem dX6_isTaken_10 : decode cX6_isTaken 10 = .ok (.lmul, 1) := by decide +kernel
theorem dX6_isTaken_11 : decode cX6_isTaken 11 = .ok (.aload_n 0, 1) := by decide +kernel
theorem dX6_isTaken_12 : decode cX6_isTaken 12 = .ok (.getfield 33, 3) := by decide +kernel
theorem dX6_isTaken_15 : decode cX6_isTaken 15 = .ok (.iload_n 1, 1) := by decide +kernel
theorem dX6_isTaken_16 : decode cX6_isTaken 16 = .ok (.iconst 1, 1) := by decide +kernel
theorem dX6_isTaken_17 : decode cX6_isTaken 17 = .ok (.iadd, 1) := by decide +kernel
theorem dX6_isTaken_18 : decode cX6_isTaken 18 = .ok (.iload_n 2, 1) := by decide +kernel
theorem dX6_isTaken_19 : decode cX6_isTaken 19 = .ok (.iconst 1, 1) := by decide +kernel
theorem dX6_isTaken_20 : decode cX6_isTaken 20 = .ok (.isub, 1) := by decide +kernel
theorem dX6_isTaken_21 : decode cX6_isTaken 21 = .ok (.iconst 5, 1) := by decide +kernel
theorem dX6_isTaken_22 : decode cX6_isTaken 22 = .ok (.iload_n 3, 1) := by decide +kernel
theorem dX6_isTaken_23 : decode cX6_isTaken 23 = .ok (.invokestatic 148, 3) := by decide +kernel
theorem dX6_isTaken_26 : decode cX6_isTaken 26 = .ok (.laload, 1) := by decide +kernel
theorem dX6_isTaken_27 : decode cX6_isTaken 27 = .ok (.ladd, 1) := by decide +kernel
theorem dX6_isTaken_28 : decode cX6_isTaken 28 = .ok (.aload_n 0, 1) := by decide +kernel
theorem dX6_isTaken_29 : decode cX6_isTaken 29 = .ok (.getfield 33, 3) := by decide +kernel
theorem dX6_isTaken_32 : decode cX6_isTaken 32 = .ok (.iload_n 1, 1) := by decide +kernel
theorem dX6_isTaken_33 : decode cX6_isTaken 33 = .ok (.iconst 1, 1) := by decide +kernel
theorem dX6_isTaken_34 : decode cX6_isTaken 34 = .ok (.iadd, 1) := by decide +kernel
theorem dX6_isTaken_35 : decode cX6_isTaken 35 = .ok (.iload_n 2, 1) := by decide +kernel
theorem dX6_isTaken_36 : decode cX6_isTaken 36 = .ok (.iload 4, 2) := by decide +kernel
theorem dX6_isTaken_38 : decode cX6_isTaken 38 = .ok (.iload_n 3, 1) := by decide +kernel
theorem dX6_isTaken_39 : decode cX6_isTaken 39 = .ok (.invokestatic 148, 3) := by decide +kernel
theorem dX6_isTaken_42 : decode cX6_isTaken 42 = .ok (.laload, 1) := by decide +kernel
theorem dX6_isTaken_43 : decode cX6_isTaken 43 = .ok (.lcmp, 1) := by decide +kernel
theorem dX6_isTaken_44 : decode cX6_isTaken 44 = .ok (.ifCond .lt 7, 3) := by decide +kernel
theorem dX6_isTaken_47 : decode cX6_isTaken 47 = .ok (.iconst 1, 1) := by decide +kernel
theorem dX6_isTaken_48 : decode cX6_isTaken 48 = .ok (.goto 4, 3) := by decide +kernel
theorem dX6_isTaken_51 : decode cX6_isTaken 51 = .ok (.iconst 0, 1) := by decide +kernel
theorem dX6_isTaken_52 : decode cX6_isTaken 52 = .ok (.ireturn, 1) := by decide +kernel
theorem dX6_choosesLevel_0 : decode cX6_choosesLevel 0 = .ok (.aload_n 0, 1) := by decide +kernel
theorem dX6_choosesLevel_1 : decode cX6_choosesLevel 1 = .ok (.iload_n 1, 1) := by decide +kernel
theorem dX6_choosesLevel_2 : decode cX6_choosesLevel 2 = .ok (.invokevirtual 172, 3) := by decide +kernel
theorem dX6_choosesLevel_5 : decode cX6_choosesLevel 5 = .ok (.ifCond .eq 34, 3) := by decide +kernel
theorem dX6_choosesLevel_8 : decode cX6_choosesLevel 8 = .ok (.iload_n 2, 1) := by decide +kernel
theorem dX6_choosesLevel_9 : decode cX6_choosesLevel 9 = .ok (.iconst 1, 1) := by decide +kernel
theorem dX6_choosesLevel_10 : decode cX6_choosesLevel 10 = .ok (.aload_n 0, 1) := by decide +kernel
theorem dX6_choosesLevel_11 : decode cX6_choosesLevel 11 = .ok (.invokevirtual 184, 3) := by decide +kernel
theorem dX6_choosesLevel_14 : decode cX6_choosesLevel 14 = .ok (.invokestatic 69, 3) := by decide +kernel
theorem dX6_choosesLevel_17 : decode cX6_choosesLevel 17 = .ok (.ifCond .eq 22, 3) := by decide +kernel
theorem dX6_choosesLevel_20 : decode cX6_choosesLevel 20 = .ok (.iload_n 3, 1) := by decide +kernel
theorem dX6_choosesLevel_21 : decode cX6_choosesLevel 21 = .ok (.iconst 0, 1) := by decide +kernel
theorem dX6_choosesLevel_22 : decode cX6_choosesLevel 22 = .ok (.iconst 5, 1) := by decide +kernel
theorem dX6_choosesLevel_23 : decode cX6_choosesLevel 23 = .ok (.invokestatic 69, 3) := by decide +kernel
theorem dX6_choosesLevel_26 : decode cX6_choosesLevel 26 = .ok (.ifCond .eq 13, 3) := by decide +kernel
theorem dX6_choosesLevel_29 : decode cX6_choosesLevel 29 = .ok (.iload 4, 2) := by decide +kernel
theorem dX6_choosesLevel_31 : decode cX6_choosesLevel 31 = .ok (.iconst 0, 1) := by decide +kernel
theorem dX6_choosesLevel_32 : decode cX6_choosesLevel 32 = .ok (.iconst 4, 1) := by decide +kernel
theorem dX6_choosesLevel_33 : decode cX6_choosesLevel 33 = .ok (.invokestatic 69, 3) := by decide +kernel
theorem dX6_choosesLevel_36 : decode cX6_choosesLevel 36 = .ok (.ifCond .ne 5, 3) := by decide +kernel
theorem dX6_choosesLevel_39 : decode cX6_choosesLevel 39 = .ok (.iconst (-1), 1) := by decide +kernel
theorem dX6_choosesLevel_40 : decode cX6_choosesLevel 40 = .ok (.ireturn, 1) := by decide +kernel
theorem dX6_choosesLevel_41 : decode cX6_choosesLevel 41 = .ok (.aload_n 0, 1) := by decide +kernel
theorem dX6_choosesLevel_42 : decode cX6_choosesLevel 42 = .ok (.invokevirtual 178, 3) := by decide +kernel
theorem dX6_choosesLevel_45 : decode cX6_choosesLevel 45 = .ok (.aload_n 0, 1) := by decide +kernel
theorem dX6_choosesLevel_46 : decode cX6_choosesLevel 46 = .ok (.iload_n 1, 1) := by decide +kernel
theorem dX6_choosesLevel_47 : decode cX6_choosesLevel 47 = .ok (.iload_n 2, 1) := by decide +kernel
theorem dX6_choosesLevel_48 : decode cX6_choosesLevel 48 = .ok (.iload_n 3, 1) := by decide +kernel
theorem dX6_choosesLevel_49 : decode cX6_choosesLevel 49 = .ok (.iload 4, 2) := by decide +kernel
theorem dX6_choosesLevel_51 : decode cX6_choosesLevel 51 = .ok (.invokevirtual 206, 3) := by decide +kernel
theorem dX6_choosesLevel_54 : decode cX6_choosesLevel 54 = .ok (.ifCond .eq 7, 3) := by decide +kernel
theorem dX6_choosesLevel_57 : decode cX6_choosesLevel 57 = .ok (.iconst 1, 1) := by decide +kernel
theorem dX6_choosesLevel_58 : decode cX6_choosesLevel 58 = .ok (.goto 4, 3) := by decide +kernel
theorem dX6_choosesLevel_61 : decode cX6_choosesLevel 61 = .ok (.iconst 0, 1) := by decide +kernel
theorem dX6_choosesLevel_62 : decode cX6_choosesLevel 62 = .ok (.ireturn, 1) := by decide +kernel
theorem dX6_leastTaken_0 : decode cX6_leastTaken 0 = .ok (.bipush (-9), 2) := by decide +kernel
theorem dX6_leastTaken_2 : decode cX6_leastTaken 2 = .ok (.istore 4, 2) := by decide +kernel
theorem dX6_leastTaken_4 : decode cX6_leastTaken 4 = .ok (.iconst 0, 1) := by decide +kernel
theorem dX6_leastTaken_5 : decode cX6_leastTaken 5 = .ok (.istore 5, 2) := by decide +kernel
theorem dX6_leastTaken_7 : decode cX6_leastTaken 7 = .ok (.iload 5, 2) := by decide +kernel
theorem dX6_leastTaken_9 : decode cX6_leastTaken 9 = .ok (.iconst 5, 1) := by decide +kernel
theorem dX6_leastTaken_10 : decode cX6_leastTaken 10 = .ok (.if_icmp .ge 64, 3) := by decide +kernel
theorem dX6_leastTaken_13 : decode cX6_leastTaken 13 = .ok (.aload_n 0, 1) := by decide +kernel
theorem dX6_leastTaken_14 : decode cX6_leastTaken 14 = .ok (.iload_n 1, 1) := by decide +kernel
theorem dX6_leastTaken_15 : decode cX6_leastTaken 15 = .ok (.iload_n 2, 1) := by decide +kernel
theorem dX6_leastTaken_16 : decode cX6_leastTaken 16 = .ok (.iload_n 3, 1) := by decide +kernel
theorem dX6_leastTaken_17 : decode cX6_leastTaken 17 = .ok (.iload 5, 2) := by decide +kernel
theorem dX6_leastTaken_19 : decode cX6_leastTaken 19 = .ok (.invokevirtual 206, 3) := by decide +kernel
theorem dX6_leastTaken_22 : decode cX6_leastTaken 22 = .ok (.ifCond .eq 25, 3) := by decide +kernel
theorem dX6_leastTaken_25 : decode cX6_leastTaken 25 = .ok (.iload 4, 2) := by decide +kernel
theorem dX6_leastTaken_27 : decode cX6_leastTaken 27 = .ok (.bipush (-9), 2) := by decide +kernel
theorem dX6_leastTaken_29 : decode cX6_leastTaken 29 = .ok (.if_icmp .eq 14, 3) := by decide +kernel
theorem dX6_leastTaken_32 : decode cX6_leastTaken 32 = .ok (.aload_n 0, 1) := by decide +kernel
theorem dX6_leastTaken_33 : decode cX6_leastTaken 33 = .ok (.iload 5, 2) := by decide +kernel
theorem dX6_leastTaken_35 : decode cX6_leastTaken 35 = .ok (.invokevirtual 143, 3) := by decide +kernel
theorem dX6_leastTaken_38 : decode cX6_leastTaken 38 = .ok (.iload 4, 2) := by decide +kernel
theorem dX6_leastTaken_40 : decode cX6_leastTaken 40 = .ok (.if_icmp .ge 7, 3) := by decide +kernel
theorem dX6_leastTaken_43 : decode cX6_leastTaken 43 = .ok (.iconst 1, 1) := by decide +kernel
theorem dX6_leastTaken_44 : decode cX6_leastTaken 44 = .ok (.goto 4, 3) := by decide +kernel
theorem dX6_leastTaken_47 : decode cX6_leastTaken 47 = .ok (.iconst 0, 1) := by decide +kernel
theorem dX6_leastTaken_48 : decode cX6_leastTaken 48 = .ok (.istore 6, 2) := by decide +kernel
theorem dX6_leastTaken_50 : decode cX6_leastTaken 50 = .ok (.iload 6, 2) := by decide +kernel
theorem dX6_leastTaken_52 : decode cX6_leastTaken 52 = .ok (.ifCond .eq 12, 3) := by decide +kernel
theorem dX6_leastTaken_55 : decode cX6_leastTaken 55 = .ok (.aload_n 0, 1) := by decide +kernel
theorem dX6_leastTaken_56 : decode cX6_leastTaken 56 = .ok (.iload 5, 2) := by decide +kernel
theorem dX6_leastTaken_58 : decode cX6_leastTaken 58 = .ok (.invokevirtual 143, 3) := by decide +kernel
theorem dX6_leastTaken_61 : decode cX6_leastTaken 61 = .ok (.goto 5, 3) := by decide +kernel
theorem dX6_leastTaken_64 : decode cX6_leastTaken 64 = .ok (.iload 4, 2) := by decide +kernel
theorem dX6_leastTaken_66 : decode cX6_leastTaken 66 = .ok (.istore 4, 2) := by decide +kernel
theorem dX6_leastTaken_68 : decode cX6_leastTaken 68 = .ok (.iinc 5 1, 3) := by decide +kernel
theorem dX6_leastTaken_71 : decode cX6_leastTaken 71 = .ok (.goto (-64), 3) := by decide +kernel
theorem dX6_leastTaken_74 : decode cX6_leastTaken 74 = .ok (.iload 4, 2) := by decide +kernel
theorem dX6_leastTaken_76 : decode cX6_leastTaken 76 = .ok (.ireturn, 1) := by decide +kernel
theorem dX6_valueThreshold_0 : decode cX6_valueThreshold 0 = .ok (.aload_n 0, 1) := by decide +kernel
theorem dX6_valueThreshold_1 : decode cX6_valueThreshold 1 = .ok (.iload_n 1, 1) := by decide +kernel
theorem dX6_valueThreshold_2 : decode cX6_valueThreshold 2 = .ok (.invokevirtual 172, 3) := by decide +kernel
theorem dX6_valueThreshold_5 : decode cX6_valueThreshold 5 = .ok (.ifCond .eq 24, 3) := by decide +kernel
theorem dX6_valueThreshold_8 : decode cX6_valueThreshold 8 = .ok (.iload_n 2, 1) := by decide +kernel
theorem dX6_valueThreshold_9 : decode cX6_valueThreshold 9 = .ok (.iconst 1, 1) := by decide +kernel
theorem dX6_valueThreshold_10 : decode cX6_valueThreshold 10 = .ok (.aload_n 0, 1) := by decide +kernel
theorem dX6_valueThreshold_11 : decode cX6_valueThreshold 11 = .ok (.invokevirtual 184, 3) := by decide +kernel
theorem dX6_valueThreshold_14 : decode cX6_valueThreshold 14 = .ok (.invokestatic 69, 3) := by decide +kernel
theorem dX6_valueThreshold_17 : decode cX6_valueThreshold 17 = .ok (.ifCond .eq 12, 3) := by decide +kernel
theorem dX6_valueThreshold_20 : decode cX6_valueThreshold 20 = .ok (.iload_n 3, 1) := by decide +kernel
theorem dX6_valueThreshold_21 : decode cX6_valueThreshold 21 = .ok (.iconst 0, 1) := by decide +kernel
theorem dX6_valueThreshold_22 : decode cX6_valueThreshold 22 = .ok (.iconst 5, 1) := by decide +kernel
theorem dX6_valueThreshold_23 : decode cX6_valueThreshold 23 = .ok (.invokestatic 69, 3) := by decide +kernel
theorem dX6_valueThreshold_26 : decode cX6_valueThreshold 26 = .ok (.ifCond .ne 5, 3) := by decide +kernel
theorem dX6_valueThreshold_29 : decode cX6_valueThreshold 29 = .ok (.iconst (-1), 1) := by decide +kernel
theorem dX6_valueThreshold_30 : decode cX6_valueThreshold 30 = .ok (.ireturn, 1) := by decide +kernel
theorem dX6_valueThreshold_31 : decode cX6_valueThreshold 31 = .ok (.aload_n 0, 1) := by decide +kernel
theorem dX6_valueThreshold_32 : decode cX6_valueThreshold 32 = .ok (.invokevirtual 178, 3) := by decide +kernel
theorem dX6_valueThreshold_35 : decode cX6_valueThreshold 35 = .ok (.aload_n 0, 1) := by decide +kernel
theorem dX6_valueThreshold_36 : decode cX6_valueThreshold 36 = .ok (.iload_n 1, 1) := by decide +kernel
theorem dX6_valueThreshold_37 : decode cX6_valueThreshold 37 = .ok (.iload_n 2, 1) := by decide +kernel
theorem dX6_valueThreshold_38 : decode cX6_valueThreshold 38 = .ok (.iload_n 3, 1) := by decide +kernel
theorem dX6_valueThreshold_39 : decode cX6_valueThreshold 39 = .ok (.invokevirtual 209, 3) := by decide +kernel
theorem dX6_valueThreshold_42 : decode cX6_valueThreshold 42 = .ok (.ireturn, 1) := by decide +kernel
theorem dX6_fixedAt_0 : decode cX6_fixedAt 0 = .ok (.aload_n 0, 1) := by decide +kernel
theorem dX6_fixedAt_1 : decode cX6_fixedAt 1 = .ok (.invokevirtual 123, 3) := by decide +kernel
theorem dX6_fixedAt_4 : decode cX6_fixedAt 4 = .ok (.iconst 1, 1) := by decide +kernel
theorem dX6_fixedAt_5 : decode cX6_fixedAt 5 = .ok (.iadd, 1) := by decide +kernel
theorem dX6_fixedAt_6 : decode cX6_fixedAt 6 = .ok (.istore_n 2, 1) := by decide +kernel
theorem dX6_fixedAt_7 : decode cX6_fixedAt 7 = .ok (.iload_n 2, 1) := by decide +kernel
theorem dX6_fixedAt_8 : decode cX6_fixedAt 8 = .ok (.ifCond .le 184, 3) := by decide +kernel
theorem dX6_fixedAt_11 : decode cX6_fixedAt 11 = .ok (.iconst 0, 1) := by decide +kernel
theorem dX6_fixedAt_12 : decode cX6_fixedAt 12 = .ok (.istore_n 3, 1) := by decide +kernel
theorem dX6_fixedAt_13 : decode cX6_fixedAt 13 = .ok (.iload_n 3, 1) := by decide +kernel
theorem dX6_fixedAt_14 : decode cX6_fixedAt 14 = .ok (.aload_n 0, 1) := by decide +kernel
theorem dX6_fixedAt_15 : decode cX6_fixedAt 15 = .ok (.invokevirtual 184, 3) := by decide +kernel
theorem dX6_fixedAt_18 : decode cX6_fixedAt 18 = .ok (.if_icmp .gt 168, 3) := by decide +kernel
theorem dX6_fixedAt_21 : decode cX6_fixedAt 21 = .ok (.lconst 0, 1) := by decide +kernel
theorem dX6_fixedAt_22 : decode cX6_fixedAt 22 = .ok (.lstore 4, 2) := by decide +kernel
theorem dX6_fixedAt_24 : decode cX6_fixedAt 24 = .ok (.iload_n 3, 1) := by decide +kernel
theorem dX6_fixedAt_25 : decode cX6_fixedAt 25 = .ok (.ifCond .le 15, 3) := by decide +kernel
theorem dX6_fixedAt_28 : decode cX6_fixedAt 28 = .ok (.iload_n 2, 1) := by decide +kernel
theorem dX6_fixedAt_29 : decode cX6_fixedAt 29 = .ok (.aload_n 0, 1) := by decide +kernel
theorem dX6_fixedAt_30 : decode cX6_fixedAt 30 = .ok (.invokevirtual 123, 3) := by decide +kernel
theorem dX6_fixedAt_33 : decode cX6_fixedAt 33 = .ok (.if_icmp .gt 7, 3) := by decide +kernel
theorem dX6_fixedAt_36 : decode cX6_fixedAt 36 = .ok (.iconst 1, 1) := by decide +kernel
theorem dX6_fixedAt_37 : decode cX6_fixedAt 37 = .ok (.goto 4, 3) := by decide +kernel
theorem dX6_fixedAt_40 : decode cX6_fixedAt 40 = .ok (.iconst 0, 1) := by decide +kernel
theorem dX6_fixedAt_41 : decode cX6_fixedAt 41 = .ok (.istore 6, 2) := by decide +kernel
theorem dX6_fixedAt_43 : decode cX6_fixedAt 43 = .ok (.iconst 0, 1) := by decide +kernel
theorem dX6_fixedAt_44 : decode cX6_fixedAt 44 = .ok (.istore 7, 2) := by decide +kernel
theorem dX6_fixedAt_46 : decode cX6_fixedAt 46 = .ok (.iload 7, 2) := by decide +kernel
theorem dX6_fixedAt_48 : decode cX6_fixedAt 48 = .ok (.iconst 5, 1) := by decide +kernel
theorem dX6_fixedAt_49 : decode cX6_fixedAt 49 = .ok (.if_icmp .ge 94, 3) := by decide +kernel
theorem dX6_fixedAt_52 : decode cX6_fixedAt 52 = .ok (.iload 6, 2) := by decide +kernel
theorem dX6_fixedAt_54 : decode cX6_fixedAt 54 = .ok (.ifCond .eq 89, 3) := by decide +kernel
theorem dX6_fixedAt_57 : decode cX6_fixedAt 57 = .ok (.aload_n 0, 1) := by decide +kernel
theorem dX6_fixedAt_58 : decode cX6_fixedAt 58 = .ok (.iload 7, 2) := by decide +kernel
theorem dX6_fixedAt_60 : decode cX6_fixedAt 60 = .ok (.invokevirtual 143, 3) := by decide +kernel
theorem dX6_fixedAt_63 : decode cX6_fixedAt 63 = .ok (.iload_n 1, 1) := by decide +kernel
theorem dX6_fixedAt_64 : decode cX6_fixedAt 64 = .ok (.if_icmp .lt 7, 3) := by decide +kernel
theorem dX6_fixedAt_67 : decode cX6_fixedAt 67 = .ok (.iconst 1, 1) := by decide +kernel
theorem dX6_fixedAt_68 : decode cX6_fixedAt 68 = .ok (.goto 4, 3) := by decide +kernel
theorem dX6_fixedAt_71 : decode cX6_fixedAt 71 = .ok (.iconst 0, 1) := by decide +kernel
theorem dX6_fixedAt_72 : decode cX6_fixedAt 72 = .ok (.istore 8, 2) := by decide +kernel
theorem dX6_fixedAt_74 : decode cX6_fixedAt 74 = .ok (.lload 4, 2) := by decide +kernel
theorem dX6_fixedAt_76 : decode cX6_fixedAt 76 = .ok (.aload_n 0, 1) := by decide +kernel
theorem dX6_fixedAt_77 : decode cX6_fixedAt 77 = .ok (.getfield 7, 3) := by decide +kernel
theorem dX6_fixedAt_80 : decode cX6_fixedAt 80 = .ok (.bipush 15, 2) := by decide +kernel
theorem dX6_fixedAt_82 : decode cX6_fixedAt 82 = .ok (.iload 7, 2) := by decide +kernel
theorem dX6_fixedAt_84 : decode cX6_fixedAt 84 = .ok (.iadd, 1) := by decide +kernel
theorem dX6_fixedAt_85 : decode cX6_fixedAt 85 = .ok (.iaload, 1) := by decide +kernel
theorem dX6_fixedAt_86 : decode cX6_fixedAt 86 = .ok (.i2l, 1) := by decide +kernel
theorem dX6_fixedAt_87 : decode cX6_fixedAt 87 = .ok (.iload 8, 2) := by decide +kernel
theorem dX6_fixedAt_89 : decode cX6_fixedAt 89 = .ok (.ifCond .eq 32, 3) := by decide +kernel
theorem dX6_fixedAt_92 : decode cX6_fixedAt 92 = .ok (.aload_n 0, 1) := by decide +kernel
theorem dX6_fixedAt_93 : decode cX6_fixedAt 93 = .ok (.iload 7, 2) := by decide +kernel
theorem dX6_fixedAt_95 : decode cX6_fixedAt 95 = .ok (.invokevirtual 143, 3) := by decide +kernel
theorem dX6_fixedAt_98 : decode cX6_fixedAt 98 = .ok (.i2l, 1) := by decide +kernel
theorem dX6_fixedAt_99 : decode cX6_fixedAt 99 = .ok (.ldc2_w 146, 3) := by decide +kernel
theorem dX6_fixedAt_102 : decode cX6_fixedAt 102 = .ok (.lmul, 1) := by decide +kernel
theorem dX6_fixedAt_103 : decode cX6_fixedAt 103 = .ok (.aload_n 0, 1) := by decide +kernel
theorem dX6_fixedAt_104 : decode cX6_fixedAt 104 = .ok (.getfield 39, 3) := by decide +kernel
theorem dX6_fixedAt_107 : decode cX6_fixedAt 107 = .ok (.iload_n 2, 1) := by decide +kernel
theorem dX6_fixedAt_108 : decode cX6_fixedAt 108 = .ok (.iconst 1, 1) := by decide +kernel
theorem dX6_fixedAt_109 : decode cX6_fixedAt 109 = .ok (.iadd, 1) := by decide +kernel
theorem dX6_fixedAt_110 : decode cX6_fixedAt 110 = .ok (.iload_n 3, 1) := by decide +kernel
theorem dX6_fixedAt_111 : decode cX6_fixedAt 111 = .ok (.iconst 1, 1) := by decide +kernel
theorem dX6_fixedAt_112 : decode cX6_fixedAt 112 = .ok (.isub, 1) := by decide +kernel
theorem dX6_fixedAt_113 : decode cX6_fixedAt 113 = .ok (.invokestatic 138, 3) := by decide +kernel
theorem dX6_fixedAt_116 : decode cX6_fixedAt 116 = .ok (.laload, 1) := by decide +kernel
theorem dX6_fixedAt_117 : decode cX6_fixedAt 117 = .ok (.ladd, 1) := by decide +kernel
theorem dX6_fixedAt_118 : decode cX6_fixedAt 118 = .ok (.goto 15, 3) := by decide +kernel
theorem dX6_fixedAt_121 : decode cX6_fixedAt 121 = .ok (.aload_n 0, 1) := by decide +kernel
theorem dX6_fixedAt_122 : decode cX6_fixedAt 122 = .ok (.getfield 39, 3) := by decide +kernel
theorem dX6_fixedAt_125 : decode cX6_fixedAt 125 = .ok (.iload_n 2, 1) := by decide +kernel
theorem dX6_fixedAt_126 : decode cX6_fixedAt 126 = .ok (.iconst 1, 1) := by decide +kernel
theorem dX6_fixedAt_127 : decode cX6_fixedAt 127 = .ok (.iadd, 1) := by decide +kernel
theorem dX6_fixedAt_128 : decode cX6_fixedAt 128 = .ok (.iload_n 3, 1) := by decide +kernel
theorem dX6_fixedAt_129 : decode cX6_fixedAt 129 = .ok (.invokestatic 138, 3) := by decide +kernel
theorem dX6_fixedAt_132 : decode cX6_fixedAt 132 = .ok (.laload, 1) := by decide +kernel
theorem dX6_fixedAt_133 : decode cX6_fixedAt 133 = .ok (.lmul, 1) := by decide +kernel
theorem dX6_fixedAt_134 : decode cX6_fixedAt 134 = .ok (.ladd, 1) := by decide +kernel
theorem dX6_fixedAt_135 : decode cX6_fixedAt 135 = .ok (.lstore 4, 2) := by decide +kernel
theorem dX6_fixedAt_137 : decode cX6_fixedAt 137 = .ok (.iinc 7 1, 3) := by decide +kernel
theorem dX6_fixedAt_140 : decode cX6_fixedAt 140 = .ok (.goto (-94), 3) := by decide +kernel
theorem dX6_fixedAt_143 : decode cX6_fixedAt 143 = .ok (.aload_n 0, 1) := by decide +kernel
theorem dX6_fixedAt_144 : decode cX6_fixedAt 144 = .ok (.getfield 39, 3) := by decide +kernel
theorem dX6_fixedAt_147 : decode cX6_fixedAt 147 = .ok (.iload_n 2, 1) := by decide +kernel
theorem dX6_fixedAt_148 : decode cX6_fixedAt 148 = .ok (.iload_n 3, 1) := by decide +kernel
theorem dX6_fixedAt_149 : decode cX6_fixedAt 149 = .ok (.invokestatic 138, 3) := by decide +kernel
theorem dX6_fixedAt_152 : decode cX6_fixedAt 152 = .ok (.iload 6, 2) := by decide +kernel
theorem dX6_fixedAt_154 : decode cX6_fixedAt 154 = .ok (.ifCond .eq 24, 3) := by decide +kernel
theorem dX6_fixedAt_157 : decode cX6_fixedAt 157 = .ok (.lload 4, 2) := by decide +kernel
theorem dX6_fixedAt_159 : decode cX6_fixedAt 159 = .ok (.ldc2_w 152, 3) := by decide +kernel
theorem dX6_fixedAt_162 : decode cX6_fixedAt 162 = .ok (.ldiv, 1) := by decide +kernel
theorem dX6_fixedAt_163 : decode cX6_fixedAt 163 = .ok (.ldc2_w 146, 3) := by decide +kernel
theorem dX6_fixedAt_166 : decode cX6_fixedAt 166 = .ok (.aload_n 0, 1) := by decide +kernel
theorem dX6_fixedAt_167 : decode cX6_fixedAt 167 = .ok (.getfield 7, 3) := by decide +kernel
theorem dX6_fixedAt_170 : decode cX6_fixedAt 170 = .ok (.iconst 2, 1) := by decide +kernel
theorem dX6_fixedAt_171 : decode cX6_fixedAt 171 = .ok (.iaload, 1) := by decide +kernel
theorem dX6_fixedAt_172 : decode cX6_fixedAt 172 = .ok (.i2l, 1) := by decide +kernel
theorem dX6_fixedAt_173 : decode cX6_fixedAt 173 = .ok (.lmul, 1) := by decide +kernel
theorem dX6_fixedAt_174 : decode cX6_fixedAt 174 = .ok (.lsub, 1) := by decide +kernel
theorem dX6_fixedAt_175 : decode cX6_fixedAt 175 = .ok (.goto 4, 3) := by decide +kernel
theorem dX6_fixedAt_178 : decode cX6_fixedAt 178 = .ok (.lconst 0, 1) := by decide +kernel
theorem dX6_fixedAt_179 : decode cX6_fixedAt 179 = .ok (.lastore, 1) := by decide +kernel
theorem dX6_fixedAt_180 : decode cX6_fixedAt 180 = .ok (.iinc 3 1, 3) := by decide +kernel
theorem dX6_fixedAt_183 : decode cX6_fixedAt 183 = .ok (.goto (-170), 3) := by decide +kernel
theorem dX6_fixedAt_186 : decode cX6_fixedAt 186 = .ok (.iinc 2 (-1), 3) := by decide +kernel
theorem dX6_fixedAt_189 : decode cX6_fixedAt 189 = .ok (.goto (-182), 3) := by decide +kernel
theorem dX6_fixedAt_192 : decode cX6_fixedAt 192 = .ok (.aload_n 0, 1) := by decide +kernel
theorem dX6_fixedAt_193 : decode cX6_fixedAt 193 = .ok (.getfield 39, 3) := by decide +kernel
theorem dX6_fixedAt_196 : decode cX6_fixedAt 196 = .ok (.iconst 1, 1) := by decide +kernel
theorem dX6_fixedAt_197 : decode cX6_fixedAt 197 = .ok (.aload_n 0, 1) := by decide +kernel
theorem dX6_fixedAt_198 : decode cX6_fixedAt 198 = .ok (.invokevirtual 184, 3) := by decide +kernel
theorem dX6_fixedAt_201 : decode cX6_fixedAt 201 = .ok (.invokestatic 138, 3) := by decide +kernel
theorem dX6_fixedAt_204 : decode cX6_fixedAt 204 = .ok (.laload, 1) := by decide +kernel
theorem dX6_fixedAt_205 : decode cX6_fixedAt 205 = .ok (.lreturn, 1) := by decide +kernel
theorem dX6_fixed_0 : decode cX6_fixed 0 = .ok (.iload_n 1, 1) := by decide +kernel
theorem dX6_fixed_1 : decode cX6_fixed 1 = .ok (.iconst 0, 1) := by decide +kernel
theorem dX6_fixed_2 : decode cX6_fixed 2 = .ok (.bipush 99, 2) := by decide +kernel
theorem dX6_fixed_4 : decode cX6_fixed 4 = .ok (.invokestatic 69, 3) := by decide +kernel
theorem dX6_fixed_7 : decode cX6_fixed 7 = .ok (.ifCond .eq 18, 3) := by decide +kernel
theorem dX6_fixed_10 : decode cX6_fixed 10 = .ok (.aload_n 0, 1) := by decide +kernel
theorem dX6_fixed_11 : decode cX6_fixed 11 = .ok (.aload_n 0, 1) := by decide +kernel
theorem dX6_fixed_12 : decode cX6_fixed 12 = .ok (.iload_n 1, 1) := by decide +kernel
theorem dX6_fixed_13 : decode cX6_fixed 13 = .ok (.invokevirtual 213, 3) := by decide +kernel
theorem dX6_fixed_16 : decode cX6_fixed 16 = .ok (.ldc2_w 146, 3) := by decide +kernel
theorem dX6_fixed_19 : decode cX6_fixed 19 = .ok (.invokevirtual 181, 3) := by decide +kernel
theorem dX6_fixed_22 : decode cX6_fixed 22 = .ok (.goto 6, 3) := by decide +kernel
theorem dX6_fixed_25 : decode cX6_fixed 25 = .ok (.ldc2_w 176, 3) := by decide +kernel
theorem dX6_fixed_28 : decode cX6_fixed 28 = .ok (.lreturn, 1) := by decide +kernel
theorem dX6_bestFixed_0 : decode cX6_bestFixed 0 = .ok (.iconst 0, 1) := by decide +kernel
theorem dX6_bestFixed_1 : decode cX6_bestFixed 1 = .ok (.istore_n 1, 1) := by decide +kernel
theorem dX6_bestFixed_2 : decode cX6_bestFixed 2 = .ok (.aload_n 0, 1) := by decide +kernel
theorem dX6_bestFixed_3 : decode cX6_bestFixed 3 = .ok (.iconst 0, 1) := by decide +kernel
theorem dX6_bestFixed_4 : decode cX6_bestFixed 4 = .ok (.invokevirtual 213, 3) := by decide +kernel
theorem dX6_bestFixed_7 : decode cX6_bestFixed 7 = .ok (.lstore_n 2, 1) := by decide +kernel
theorem dX6_bestFixed_8 : decode cX6_bestFixed 8 = .ok (.iconst 1, 1) := by decide +kernel
theorem dX6_bestFixed_9 : decode cX6_bestFixed 9 = .ok (.istore 4, 2) := by decide +kernel
theorem dX6_bestFixed_11 : decode cX6_bestFixed 11 = .ok (.iload 4, 2) := by decide +kernel
theorem dX6_bestFixed_13 : decode cX6_bestFixed 13 = .ok (.bipush 100, 2) := by decide +kernel
theorem dX6_bestFixed_15 : decode cX6_bestFixed 15 = .ok (.if_icmp .ge 45, 3) := by decide +kernel
theorem dX6_bestFixed_18 : decode cX6_bestFixed 18 = .ok (.aload_n 0, 1) := by decide +kernel
theorem dX6_bestFixed_19 : decode cX6_bestFixed 19 = .ok (.iload 4, 2) := by decide +kernel
theorem dX6_bestFixed_21 : decode cX6_bestFixed 21 = .ok (.invokevirtual 213, 3) := by decide +kernel
theorem dX6_bestFixed_24 : decode cX6_bestFixed 24 = .ok (.lstore 5, 2) := by decide +kernel
theorem dX6_bestFixed_26 : decode cX6_bestFixed 26 = .ok (.lload 5, 2) := by decide +kernel
theorem dX6_bestFixed_28 : decode cX6_bestFixed 28 = .ok (.lload_n 2, 1) := by decide +kernel
theorem dX6_bestFixed_29 : decode cX6_bestFixed 29 = .ok (.lcmp, 1) := by decide +kernel
theorem dX6_bestFixed_30 : decode cX6_bestFixed 30 = .ok (.ifCond .le 8, 3) := by decide +kernel
theorem dX6_bestFixed_33 : decode cX6_bestFixed 33 = .ok (.iload 4, 2) := by decide +kernel
theorem dX6_bestFixed_35 : decode cX6_bestFixed 35 = .ok (.goto 4, 3) := by decide +kernel
theorem dX6_bestFixed_38 : decode cX6_bestFixed 38 = .ok (.iload_n 1, 1) := by decide +kernel
theorem dX6_bestFixed_39 : decode cX6_bestFixed 39 = .ok (.istore_n 1, 1) := by decide +kernel
theorem dX6_bestFixed_40 : decode cX6_bestFixed 40 = .ok (.lload 5, 2) := by decide +kernel
theorem dX6_bestFixed_42 : decode cX6_bestFixed 42 = .ok (.lload_n 2, 1) := by decide +kernel
theorem dX6_bestFixed_43 : decode cX6_bestFixed 43 = .ok (.lcmp, 1) := by decide +kernel
theorem dX6_bestFixed_44 : decode cX6_bestFixed 44 = .ok (.ifCond .le 8, 3) := by decide +kernel
theorem dX6_bestFixed_47 : decode cX6_bestFixed 47 = .ok (.lload 5, 2) := by decide +kernel
theorem dX6_bestFixed_49 : decode cX6_bestFixed 49 = .ok (.goto 4, 3) := by decide +kernel
theorem dX6_bestFixed_52 : decode cX6_bestFixed 52 = .ok (.lload_n 2, 1) := by decide +kernel
theorem dX6_bestFixed_53 : decode cX6_bestFixed 53 = .ok (.lstore_n 2, 1) := by decide +kernel
theorem dX6_bestFixed_54 : decode cX6_bestFixed 54 = .ok (.iinc 4 1, 3) := by decide +kernel
theorem dX6_bestFixed_57 : decode cX6_bestFixed 57 = .ok (.goto (-46), 3) := by decide +kernel
theorem dX6_bestFixed_60 : decode cX6_bestFixed 60 = .ok (.iload_n 1, 1) := by decide +kernel
theorem dX6_bestFixed_61 : decode cX6_bestFixed 61 = .ok (.ireturn, 1) := by decide +kernel
theorem dX6_gain_0 : decode cX6_gain 0 = .ok (.aload_n 0, 1) := by decide +kernel
theorem dX6_gain_1 : decode cX6_gain 1 = .ok (.getfield 7, 3) := by decide +kernel
theorem dX6_gain_4 : decode cX6_gain 4 = .ok (.bipush 20, 2) := by decide +kernel
theorem dX6_gain_6 : decode cX6_gain 6 = .ok (.iaload, 1) := by decide +kernel
theorem dX6_gain_7 : decode cX6_gain 7 = .ok (.istore_n 1, 1) := by decide +kernel
theorem dX6_gain_8 : decode cX6_gain 8 = .ok (.aload_n 0, 1) := by decide +kernel
theorem dX6_gain_9 : decode cX6_gain 9 = .ok (.getfield 7, 3) := by decide +kernel
theorem dX6_gain_12 : decode cX6_gain 12 = .ok (.bipush 21, 2) := by decide +kernel
theorem dX6_gain_14 : decode cX6_gain 14 = .ok (.iaload, 1) := by decide +kernel
theorem dX6_gain_15 : decode cX6_gain 15 = .ok (.istore_n 2, 1) := by decide +kernel
theorem dX6_gain_16 : decode cX6_gain 16 = .ok (.aload_n 0, 1) := by decide +kernel
theorem dX6_gain_17 : decode cX6_gain 17 = .ok (.getfield 33, 3) := by decide +kernel
theorem dX6_gain_20 : decode cX6_gain 20 = .ok (.iconst 1, 1) := by decide +kernel
theorem dX6_gain_21 : decode cX6_gain 21 = .ok (.aload_n 0, 1) := by decide +kernel
theorem dX6_gain_22 : decode cX6_gain 22 = .ok (.invokevirtual 184, 3) := by decide +kernel
theorem dX6_gain_25 : decode cX6_gain 25 = .ok (.iconst 5, 1) := by decide +kernel
theorem dX6_gain_26 : decode cX6_gain 26 = .ok (.iconst 5, 1) := by decide +kernel
theorem dX6_gain_27 : decode cX6_gain 27 = .ok (.invokestatic 148, 3) := by decide +kernel
theorem dX6_gain_30 : decode cX6_gain 30 = .ok (.laload, 1) := by decide +kernel
theorem dX6_gain_31 : decode cX6_gain 31 = .ok (.lstore_n 3, 1) := by decide +kernel
theorem dX6_gain_32 : decode cX6_gain 32 = .ok (.aload_n 0, 1) := by decide +kernel
theorem dX6_gain_33 : decode cX6_gain 33 = .ok (.getfield 7, 3) := by decide +kernel
theorem dX6_gain_36 : decode cX6_gain 36 = .ok (.bipush 20, 2) := by decide +kernel
theorem dX6_gain_38 : decode cX6_gain 38 = .ok (.iconst 0, 1) := by decide +kernel
theorem dX6_gain_39 : decode cX6_gain 39 = .ok (.iastore, 1) := by decide +kernel
theorem dX6_gain_40 : decode cX6_gain 40 = .ok (.aload_n 0, 1) := by decide +kernel
theorem dX6_gain_41 : decode cX6_gain 41 = .ok (.getfield 7, 3) := by decide +kernel
theorem dX6_gain_44 : decode cX6_gain 44 = .ok (.bipush 21, 2) := by decide +kernel
theorem dX6_gain_46 : decode cX6_gain 46 = .ok (.iconst 0, 1) := by decide +kernel
theorem dX6_gain_47 : decode cX6_gain 47 = .ok (.iastore, 1) := by decide +kernel
theorem dX6_gain_48 : decode cX6_gain 48 = .ok (.aload_n 0, 1) := by decide +kernel
theorem dX6_gain_49 : decode cX6_gain 49 = .ok (.invokevirtual 169, 3) := by decide +kernel
theorem dX6_gain_52 : decode cX6_gain 52 = .ok (.aload_n 0, 1) := by decide +kernel
theorem dX6_gain_53 : decode cX6_gain 53 = .ok (.getfield 33, 3) := by decide +kernel
theorem dX6_gain_56 : decode cX6_gain 56 = .ok (.iconst 1, 1) := by decide +kernel
theorem dX6_gain_57 : decode cX6_gain 57 = .ok (.aload_n 0, 1) := by decide +kernel
theorem dX6_gain_58 : decode cX6_gain 58 = .ok (.invokevirtual 184, 3) := by decide +kernel
theorem dX6_gain_61 : decode cX6_gain 61 = .ok (.iconst 5, 1) := by decide +kernel
theorem dX6_gain_62 : decode cX6_gain 62 = .ok (.iconst 5, 1) := by decide +kernel
theorem dX6_gain_63 : decode cX6_gain 63 = .ok (.invokestatic 148, 3) := by decide +kernel
theorem dX6_gain_66 : decode cX6_gain 66 = .ok (.laload, 1) := by decide +kernel
theorem dX6_gain_67 : decode cX6_gain 67 = .ok (.lstore 5, 2) := by decide +kernel
theorem dX6_gain_69 : decode cX6_gain 69 = .ok (.aload_n 0, 1) := by decide +kernel
theorem dX6_gain_70 : decode cX6_gain 70 = .ok (.getfield 7, 3) := by decide +kernel
theorem dX6_gain_73 : decode cX6_gain 73 = .ok (.bipush 20, 2) := by decide +kernel
theorem dX6_gain_75 : decode cX6_gain 75 = .ok (.iload_n 1, 1) := by decide +kernel
theorem dX6_gain_76 : decode cX6_gain 76 = .ok (.iastore, 1) := by decide +kernel
theorem dX6_gain_77 : decode cX6_gain 77 = .ok (.aload_n 0, 1) := by decide +kernel
theorem dX6_gain_78 : decode cX6_gain 78 = .ok (.getfield 7, 3) := by decide +kernel
theorem dX6_gain_81 : decode cX6_gain 81 = .ok (.bipush 21, 2) := by decide +kernel
theorem dX6_gain_83 : decode cX6_gain 83 = .ok (.iload_n 2, 1) := by decide +kernel
theorem dX6_gain_84 : decode cX6_gain 84 = .ok (.iastore, 1) := by decide +kernel
theorem dX6_gain_85 : decode cX6_gain 85 = .ok (.aload_n 0, 1) := by decide +kernel
theorem dX6_gain_86 : decode cX6_gain 86 = .ok (.invokevirtual 169, 3) := by decide +kernel
theorem dX6_gain_89 : decode cX6_gain 89 = .ok (.lload_n 3, 1) := by decide +kernel
theorem dX6_gain_90 : decode cX6_gain 90 = .ok (.lload 5, 2) := by decide +kernel
theorem dX6_gain_92 : decode cX6_gain 92 = .ok (.lsub, 1) := by decide +kernel
theorem dX6_gain_93 : decode cX6_gain 93 = .ok (.lreturn, 1) := by decide +kernel
theorem dX6_recallGain_0 : decode cX6_recallGain 0 = .ok (.aload_n 0, 1) := by decide +kernel
theorem dX6_recallGain_1 : decode cX6_recallGain 1 = .ok (.invokevirtual 178, 3) := by decide +kernel
theorem dX6_recallGain_4 : decode cX6_recallGain 4 = .ok (.aload_n 0, 1) := by decide +kernel
theorem dX6_recallGain_5 : decode cX6_recallGain 5 = .ok (.aload_n 0, 1) := by decide +kernel
theorem dX6_recallGain_6 : decode cX6_recallGain 6 = .ok (.invokevirtual 216, 3) := by decide +kernel
theorem dX6_recallGain_9 : decode cX6_recallGain 9 = .ok (.ldc2_w 146, 3) := by decide +kernel
theorem dX6_recallGain_12 : decode cX6_recallGain 12 = .ok (.invokevirtual 181, 3) := by decide +kernel
theorem dX6_recallGain_15 : decode cX6_recallGain 15 = .ok (.lreturn, 1) := by decide +kernel
theorem dX6_price_0 : decode cX6_price 0 = .ok (.aload_n 0, 1) := by decide +kernel
theorem dX6_price_1 : decode cX6_price 1 = .ok (.invokevirtual 184, 3) := by decide +kernel
theorem dX6_price_4 : decode cX6_price 4 = .ok (.iconst 3, 1) := by decide +kernel
theorem dX6_price_5 : decode cX6_price 5 = .ok (.if_icmp .ne 7, 3) := by decide +kernel
theorem dX6_price_8 : decode cX6_price 8 = .ok (.ldc2_w 176, 3) := by decide +kernel
theorem dX6_price_11 : decode cX6_price 11 = .ok (.lreturn, 1) := by decide +kernel
theorem dX6_price_12 : decode cX6_price 12 = .ok (.aload_n 0, 1) := by decide +kernel
theorem dX6_price_13 : decode cX6_price 13 = .ok (.invokevirtual 178, 3) := by decide +kernel
theorem dX6_price_16 : decode cX6_price 16 = .ok (.aload_n 0, 1) := by decide +kernel
theorem dX6_price_17 : decode cX6_price 17 = .ok (.getfield 33, 3) := by decide +kernel
theorem dX6_price_20 : decode cX6_price 20 = .ok (.iconst 1, 1) := by decide +kernel
theorem dX6_price_21 : decode cX6_price 21 = .ok (.aload_n 0, 1) := by decide +kernel
theorem dX6_price_22 : decode cX6_price 22 = .ok (.invokevirtual 184, 3) := by decide +kernel
theorem dX6_price_25 : decode cX6_price 25 = .ok (.iconst 1, 1) := by decide +kernel
theorem dX6_price_26 : decode cX6_price 26 = .ok (.iadd, 1) := by decide +kernel
theorem dX6_price_27 : decode cX6_price 27 = .ok (.iconst 5, 1) := by decide +kernel
theorem dX6_price_28 : decode cX6_price 28 = .ok (.iconst 5, 1) := by decide +kernel
theorem dX6_price_29 : decode cX6_price 29 = .ok (.invokestatic 148, 3) := by decide +kernel
theorem dX6_price_32 : decode cX6_price 32 = .ok (.laload, 1) := by decide +kernel
theorem dX6_price_33 : decode cX6_price 33 = .ok (.aload_n 0, 1) := by decide +kernel
theorem dX6_price_34 : decode cX6_price 34 = .ok (.getfield 33, 3) := by decide +kernel
theorem dX6_price_37 : decode cX6_price 37 = .ok (.iconst 1, 1) := by decide +kernel
theorem dX6_price_38 : decode cX6_price 38 = .ok (.aload_n 0, 1) := by decide +kernel
theorem dX6_price_39 : decode cX6_price 39 = .ok (.invokevirtual 184, 3) := by decide +kernel
theorem dX6_price_42 : decode cX6_price 42 = .ok (.iconst 5, 1) := by decide +kernel
theorem dX6_price_43 : decode cX6_price 43 = .ok (.iconst 5, 1) := by decide +kernel
theorem dX6_price_44 : decode cX6_price 44 = .ok (.invokestatic 148, 3) := by decide +kernel
theorem dX6_price_47 : decode cX6_price 47 = .ok (.laload, 1) := by decide +kernel
theorem dX6_price_48 : decode cX6_price 48 = .ok (.lsub, 1) := by decide +kernel
theorem dX6_price_49 : decode cX6_price 49 = .ok (.lstore_n 2, 1) := by decide +kernel
theorem dX6_price_50 : decode cX6_price 50 = .ok (.iload_n 1, 1) := by decide +kernel
theorem dX6_price_51 : decode cX6_price 51 = .ok (.ifCond .eq 14, 3) := by decide +kernel
theorem dX6_price_54 : decode cX6_price 54 = .ok (.aload_n 0, 1) := by decide +kernel
theorem dX6_price_55 : decode cX6_price 55 = .ok (.lload_n 2, 1) := by decide +kernel
theorem dX6_price_56 : decode cX6_price 56 = .ok (.ldc2_w 146, 3) := by decide +kernel
theorem dX6_price_59 : decode cX6_price 59 = .ok (.invokevirtual 181, 3) := by decide +kernel
theorem dX6_price_62 : decode cX6_price 62 = .ok (.goto 39, 3) := by decide +kernel
theorem dX6_price_65 : decode cX6_price 65 = .ok (.aload_n 0, 1) := by decide +kernel
theorem dX6_price_66 : decode cX6_price 66 = .ok (.aload_n 0, 1) := by decide +kernel
theorem dX6_price_67 : decode cX6_price 67 = .ok (.getfield 30, 3) := by decide +kernel
theorem dX6_price_70 : decode cX6_price 70 = .ok (.iconst 1, 1) := by decide +kernel
theorem dX6_price_71 : decode cX6_price 71 = .ok (.aload_n 0, 1) := by decide +kernel
theorem dX6_price_72 : decode cX6_price 72 = .ok (.invokevirtual 184, 3) := by decide +kernel
theorem dX6_price_75 : decode cX6_price 75 = .ok (.iconst 1, 1) := by decide +kernel
theorem dX6_price_76 : decode cX6_price 76 = .ok (.iadd, 1) := by decide +kernel
theorem dX6_price_77 : decode cX6_price 77 = .ok (.invokestatic 138, 3) := by decide +kernel
theorem dX6_price_80 : decode cX6_price 80 = .ok (.laload, 1) := by decide +kernel
theorem dX6_price_81 : decode cX6_price 81 = .ok (.aload_n 0, 1) := by decide +kernel
theorem dX6_price_82 : decode cX6_price 82 = .ok (.getfield 30, 3) := by decide +kernel
theorem dX6_price_85 : decode cX6_price 85 = .ok (.iconst 1, 1) := by decide +kernel
theorem dX6_price_86 : decode cX6_price 86 = .ok (.aload_n 0, 1) := by decide +kernel
theorem dX6_price_87 : decode cX6_price 87 = .ok (.invokevirtual 184, 3) := by decide +kernel
theorem dX6_price_90 : decode cX6_price 90 = .ok (.invokestatic 138, 3) := by decide +kernel
theorem dX6_price_93 : decode cX6_price 93 = .ok (.laload, 1) := by decide +kernel
theorem dX6_price_94 : decode cX6_price 94 = .ok (.lsub, 1) := by decide +kernel
theorem dX6_price_95 : decode cX6_price 95 = .ok (.ldc2_w 130, 3) := by decide +kernel
theorem dX6_price_98 : decode cX6_price 98 = .ok (.invokevirtual 181, 3) := by decide +kernel
theorem dX6_price_101 : decode cX6_price 101 = .ok (.lreturn, 1) := by decide +kernel
theorem dX6_draws_0 : decode cX6_draws 0 = .ok (.aload_n 0, 1) := by decide +kernel
theorem dX6_draws_1 : decode cX6_draws 1 = .ok (.aload_n 0, 1) := by decide +kernel
theorem dX6_draws_2 : decode cX6_draws 2 = .ok (.getfield 220, 3) := by decide +kernel
theorem dX6_draws_5 : decode cX6_draws 5 = .ok (.ldc 223, 2) := by decide +kernel
theorem dX6_draws_7 : decode cX6_draws 7 = .ok (.imul, 1) := by decide +kernel
theorem dX6_draws_8 : decode cX6_draws 8 = .ok (.sipush 12345, 3) := by decide +kernel
theorem dX6_draws_11 : decode cX6_draws 11 = .ok (.iadd, 1) := by decide +kernel
theorem dX6_draws_12 : decode cX6_draws 12 = .ok (.putfield 220, 3) := by decide +kernel
theorem dX6_draws_15 : decode cX6_draws 15 = .ok (.aload_n 0, 1) := by decide +kernel
theorem dX6_draws_16 : decode cX6_draws 16 = .ok (.getfield 220, 3) := by decide +kernel
theorem dX6_draws_19 : decode cX6_draws 19 = .ok (.bipush 16, 2) := by decide +kernel
theorem dX6_draws_21 : decode cX6_draws 21 = .ok (.iushr, 1) := by decide +kernel
theorem dX6_draws_22 : decode cX6_draws 22 = .ok (.sipush 32767, 3) := by decide +kernel
theorem dX6_draws_25 : decode cX6_draws 25 = .ok (.iand, 1) := by decide +kernel
theorem dX6_draws_26 : decode cX6_draws 26 = .ok (.ireturn, 1) := by decide +kernel
theorem dX6_drawsRanks_0 : decode cX6_drawsRanks 0 = .ok (.iconst 1, 1) := by decide +kernel
theorem dX6_drawsRanks_1 : decode cX6_drawsRanks 1 = .ok (.istore_n 1, 1) := by decide +kernel
theorem dX6_drawsRanks_2 : decode cX6_drawsRanks 2 = .ok (.iload_n 1, 1) := by decide +kernel
theorem dX6_drawsRanks_3 : decode cX6_drawsRanks 3 = .ok (.aload_n 0, 1) := by decide +kernel
theorem dX6_drawsRanks_4 : decode cX6_drawsRanks 4 = .ok (.invokevirtual 123, 3) := by decide +kernel
theorem dX6_drawsRanks_7 : decode cX6_drawsRanks 7 = .ok (.if_icmp .gt 77, 3) := by decide +kernel
theorem dX6_drawsRanks_10 : decode cX6_drawsRanks 10 = .ok (.aload_n 0, 1) := by decide +kernel
theorem dX6_drawsRanks_11 : decode cX6_drawsRanks 11 = .ok (.getfield 42, 3) := by decide +kernel
theorem dX6_drawsRanks_14 : decode cX6_drawsRanks 14 = .ok (.iload_n 1, 1) := by decide +kernel
theorem dX6_drawsRanks_15 : decode cX6_drawsRanks 15 = .ok (.iconst 1, 1) := by decide +kernel
theorem dX6_drawsRanks_16 : decode cX6_drawsRanks 16 = .ok (.aload_n 0, 1) := by decide +kernel
theorem dX6_drawsRanks_17 : decode cX6_drawsRanks 17 = .ok (.invokevirtual 224, 3) := by decide +kernel
theorem dX6_drawsRanks_20 : decode cX6_drawsRanks 20 = .ok (.iload_n 1, 1) := by decide +kernel
theorem dX6_drawsRanks_21 : decode cX6_drawsRanks 21 = .ok (.irem, 1) := by decide +kernel
theorem dX6_drawsRanks_22 : decode cX6_drawsRanks 22 = .ok (.iadd, 1) := by decide +kernel
theorem dX6_drawsRanks_23 : decode cX6_drawsRanks 23 = .ok (.iastore, 1) := by decide +kernel
theorem dX6_drawsRanks_24 : decode cX6_drawsRanks 24 = .ok (.aload_n 0, 1) := by decide +kernel
theorem dX6_drawsRanks_25 : decode cX6_drawsRanks 25 = .ok (.getfield 45, 3) := by decide +kernel
theorem dX6_drawsRanks_28 : decode cX6_drawsRanks 28 = .ok (.iload_n 1, 1) := by decide +kernel
theorem dX6_drawsRanks_29 : decode cX6_drawsRanks 29 = .ok (.aload_n 0, 1) := by decide +kernel
theorem dX6_drawsRanks_30 : decode cX6_drawsRanks 30 = .ok (.getfield 42, 3) := by decide +kernel
theorem dX6_drawsRanks_33 : decode cX6_drawsRanks 33 = .ok (.iload_n 1, 1) := by decide +kernel
theorem dX6_drawsRanks_34 : decode cX6_drawsRanks 34 = .ok (.iaload, 1) := by decide +kernel
theorem dX6_drawsRanks_35 : decode cX6_drawsRanks 35 = .ok (.iastore, 1) := by decide +kernel
theorem dX6_drawsRanks_36 : decode cX6_drawsRanks 36 = .ok (.iconst 1, 1) := by decide +kernel
theorem dX6_drawsRanks_37 : decode cX6_drawsRanks 37 = .ok (.istore_n 2, 1) := by decide +kernel
theorem dX6_drawsRanks_38 : decode cX6_drawsRanks 38 = .ok (.iload_n 2, 1) := by decide +kernel
theorem dX6_drawsRanks_39 : decode cX6_drawsRanks 39 = .ok (.iload_n 1, 1) := by decide +kernel
theorem dX6_drawsRanks_40 : decode cX6_drawsRanks 40 = .ok (.if_icmp .ge 38, 3) := by decide +kernel
theorem dX6_drawsRanks_43 : decode cX6_drawsRanks 43 = .ok (.aload_n 0, 1) := by decide +kernel
theorem dX6_drawsRanks_44 : decode cX6_drawsRanks 44 = .ok (.getfield 45, 3) := by decide +kernel
theorem dX6_drawsRanks_47 : decode cX6_drawsRanks 47 = .ok (.iload_n 2, 1) := by decide +kernel
theorem dX6_drawsRanks_48 : decode cX6_drawsRanks 48 = .ok (.dup2, 1) := by decide +kernel
theorem dX6_drawsRanks_49 : decode cX6_drawsRanks 49 = .ok (.iaload, 1) := by decide +kernel
theorem dX6_drawsRanks_50 : decode cX6_drawsRanks 50 = .ok (.aload_n 0, 1) := by decide +kernel
theorem dX6_drawsRanks_51 : decode cX6_drawsRanks 51 = .ok (.getfield 45, 3) := by decide +kernel
theorem dX6_drawsRanks_54 : decode cX6_drawsRanks 54 = .ok (.iload_n 2, 1) := by decide +kernel
theorem dX6_drawsRanks_55 : decode cX6_drawsRanks 55 = .ok (.iaload, 1) := by decide +kernel
theorem dX6_drawsRanks_56 : decode cX6_drawsRanks 56 = .ok (.aload_n 0, 1) := by decide +kernel
theorem dX6_drawsRanks_57 : decode cX6_drawsRanks 57 = .ok (.getfield 42, 3) := by decide +kernel
theorem dX6_drawsRanks_60 : decode cX6_drawsRanks 60 = .ok (.iload_n 1, 1) := by decide +kernel
theorem dX6_drawsRanks_61 : decode cX6_drawsRanks 61 = .ok (.iaload, 1) := by decide +kernel
theorem dX6_drawsRanks_62 : decode cX6_drawsRanks 62 = .ok (.if_icmp .lt 7, 3) := by decide +kernel
theorem dX6_drawsRanks_65 : decode cX6_drawsRanks 65 = .ok (.iconst 1, 1) := by decide +kernel
theorem dX6_drawsRanks_66 : decode cX6_drawsRanks 66 = .ok (.goto 4, 3) := by decide +kernel
theorem dX6_drawsRanks_69 : decode cX6_drawsRanks 69 = .ok (.iconst 0, 1) := by decide +kernel
theorem dX6_drawsRanks_70 : decode cX6_drawsRanks 70 = .ok (.iadd, 1) := by decide +kernel
theorem dX6_drawsRanks_71 : decode cX6_drawsRanks 71 = .ok (.iastore, 1) := by decide +kernel
theorem dX6_drawsRanks_72 : decode cX6_drawsRanks 72 = .ok (.iinc 2 1, 3) := by decide +kernel
theorem dX6_drawsRanks_75 : decode cX6_drawsRanks 75 = .ok (.goto (-37), 3) := by decide +kernel
theorem dX6_drawsRanks_78 : decode cX6_drawsRanks 78 = .ok (.iinc 1 1, 3) := by decide +kernel
theorem dX6_drawsRanks_81 : decode cX6_drawsRanks 81 = .ok (.goto (-79), 3) := by decide +kernel
theorem dX6_drawsRanks_84 : decode cX6_drawsRanks 84 = .ok (.return_, 1) := by decide +kernel
theorem dX6_simulateRanks_0 : decode cX6_simulateRanks 0 = .ok (.iload_n 2, 1) := by decide +kernel
theorem dX6_simulateRanks_1 : decode cX6_simulateRanks 1 = .ok (.iconst 0, 1) := by decide +kernel
theorem dX6_simulateRanks_2 : decode cX6_simulateRanks 2 = .ok (.iconst 2, 1) := by decide +kernel
theorem dX6_simulateRanks_3 : decode cX6_simulateRanks 3 = .ok (.invokestatic 69, 3) := by decide +kernel
theorem dX6_simulateRanks_6 : decode cX6_simulateRanks 6 = .ok (.ifCond .ne 5, 3) := by decide +kernel
theorem dX6_simulateRanks_9 : decode cX6_simulateRanks 9 = .ok (.iconst (-1), 1) := by decide +kernel
theorem dX6_simulateRanks_10 : decode cX6_simulateRanks 10 = .ok (.ireturn, 1) := by decide +kernel
theorem dX6_simulateRanks_11 : decode cX6_simulateRanks 11 = .ok (.aload_n 0, 1) := by decide +kernel
theorem dX6_simulateRanks_12 : decode cX6_simulateRanks 12 = .ok (.invokevirtual 178, 3) := by decide +kernel
theorem dX6_simulateRanks_15 : decode cX6_simulateRanks 15 = .ok (.aload_n 0, 1) := by decide +kernel
theorem dX6_simulateRanks_16 : decode cX6_simulateRanks 16 = .ok (.iload_n 1, 1) := by decide +kernel
theorem dX6_simulateRanks_17 : decode cX6_simulateRanks 17 = .ok (.putfield 220, 3) := by decide +kernel
theorem dX6_simulateRanks_20 : decode cX6_simulateRanks 20 = .ok (.aload_n 0, 1) := by decide +kernel
theorem dX6_simulateRanks_21 : decode cX6_simulateRanks 21 = .ok (.invokevirtual 227, 3) := by decide +kernel
theorem dX6_simulateRanks_24 : decode cX6_simulateRanks 24 = .ok (.iconst 0, 1) := by decide +kernel
theorem dX6_simulateRanks_25 : decode cX6_simulateRanks 25 = .ok (.istore_n 3, 1) := by decide +kernel
theorem dX6_simulateRanks_26 : decode cX6_simulateRanks 26 = .ok (.iconst 0, 1) := by decide +kernel
theorem dX6_simulateRanks_27 : decode cX6_simulateRanks 27 = .ok (.istore 4, 2) := by decide +kernel
theorem dX6_simulateRanks_29 : decode cX6_simulateRanks 29 = .ok (.iconst 0, 1) := by decide +kernel
theorem dX6_simulateRanks_30 : decode cX6_simulateRanks 30 = .ok (.istore 5, 2) := by decide +kernel
theorem dX6_simulateRanks_32 : decode cX6_simulateRanks 32 = .ok (.aload_n 0, 1) := by decide +kernel
theorem dX6_simulateRanks_33 : decode cX6_simulateRanks 33 = .ok (.invokevirtual 184, 3) := by decide +kernel
theorem dX6_simulateRanks_36 : decode cX6_simulateRanks 36 = .ok (.istore 6, 2) := by decide +kernel
theorem dX6_simulateRanks_38 : decode cX6_simulateRanks 38 = .ok (.iconst 1, 1) := by decide +kernel
theorem dX6_simulateRanks_39 : decode cX6_simulateRanks 39 = .ok (.istore 7, 2) := by decide +kernel
theorem dX6_simulateRanks_41 : decode cX6_simulateRanks 41 = .ok (.iload 7, 2) := by decide +kernel
theorem dX6_simulateRanks_43 : decode cX6_simulateRanks 43 = .ok (.aload_n 0, 1) := by decide +kernel
theorem dX6_simulateRanks_44 : decode cX6_simulateRanks 44 = .ok (.invokevirtual 123, 3) := by decide +kernel
theorem dX6_simulateRanks_47 : decode cX6_simulateRanks 47 = .ok (.if_icmp .gt 80, 3) := by decide +kernel
theorem dX6_simulateRanks_50 : decode cX6_simulateRanks 50 = .ok (.aload_n 0, 1) := by decide +kernel
theorem dX6_simulateRanks_51 : decode cX6_simulateRanks 51 = .ok (.getfield 30, 3) := by decide +kernel
theorem dX6_simulateRanks_54 : decode cX6_simulateRanks 54 = .ok (.iload 7, 2) := by decide +kernel
theorem dX6_simulateRanks_56 : decode cX6_simulateRanks 56 = .ok (.iload 6, 2) := by decide +kernel
theorem dX6_simulateRanks_58 : decode cX6_simulateRanks 58 = .ok (.invokestatic 138, 3) := by decide +kernel
theorem dX6_simulateRanks_61 : decode cX6_simulateRanks 61 = .ok (.laload, 1) := by decide +kernel
theorem dX6_simulateRanks_62 : decode cX6_simulateRanks 62 = .ok (.lconst 0, 1) := by decide +kernel
theorem dX6_simulateRanks_63 : decode cX6_simulateRanks 63 = .ok (.lcmp, 1) := by decide +kernel
theorem dX6_simulateRanks_64 : decode cX6_simulateRanks 64 = .ok (.ifCond .le 63, 3) := by decide +kernel
theorem dX6_simulateRanks_67 : decode cX6_simulateRanks 67 = .ok (.iinc 4 1, 3) := by decide +kernel
theorem dX6_simulateRanks_70 : decode cX6_simulateRanks 70 = .ok (.aload_n 0, 1) := by decide +kernel
theorem dX6_simulateRanks_71 : decode cX6_simulateRanks 71 = .ok (.iload 7, 2) := by decide +kernel
theorem dX6_simulateRanks_73 : decode cX6_simulateRanks 73 = .ok (.iload 6, 2) := by decide +kernel
theorem dX6_simulateRanks_75 : decode cX6_simulateRanks 75 = .ok (.aload_n 0, 1) := by decide +kernel
theorem dX6_simulateRanks_76 : decode cX6_simulateRanks 76 = .ok (.getfield 42, 3) := by decide +kernel
theorem dX6_simulateRanks_79 : decode cX6_simulateRanks 79 = .ok (.iload 7, 2) := by decide +kernel
theorem dX6_simulateRanks_81 : decode cX6_simulateRanks 81 = .ok (.iaload, 1) := by decide +kernel
theorem dX6_simulateRanks_82 : decode cX6_simulateRanks 82 = .ok (.invokevirtual 187, 3) := by decide +kernel
theorem dX6_simulateRanks_85 : decode cX6_simulateRanks 85 = .ok (.ifCond .eq 36, 3) := by decide +kernel
theorem dX6_simulateRanks_88 : decode cX6_simulateRanks 88 = .ok (.iload_n 3, 1) := by decide +kernel
theorem dX6_simulateRanks_89 : decode cX6_simulateRanks 89 = .ok (.aload_n 0, 1) := by decide +kernel
theorem dX6_simulateRanks_90 : decode cX6_simulateRanks 90 = .ok (.getfield 7, 3) := by decide +kernel
theorem dX6_simulateRanks_93 : decode cX6_simulateRanks 93 = .ok (.iconst 3, 1) := by decide +kernel
theorem dX6_simulateRanks_94 : decode cX6_simulateRanks 94 = .ok (.aload_n 0, 1) := by decide +kernel
theorem dX6_simulateRanks_95 : decode cX6_simulateRanks 95 = .ok (.getfield 45, 3) := by decide +kernel
theorem dX6_simulateRanks_98 : decode cX6_simulateRanks 98 = .ok (.iload 7, 2) := by decide +kernel
theorem dX6_simulateRanks_100 : decode cX6_simulateRanks 100 = .ok (.iaload, 1) := by decide +kernel
theorem dX6_simulateRanks_101 : decode cX6_simulateRanks 101 = .ok (.iadd, 1) := by decide +kernel
theorem dX6_simulateRanks_102 : decode cX6_simulateRanks 102 = .ok (.iconst 1, 1) := by decide +kernel
theorem dX6_simulateRanks_103 : decode cX6_simulateRanks 103 = .ok (.isub, 1) := by decide +kernel
theorem dX6_simulateRanks_104 : decode cX6_simulateRanks 104 = .ok (.iaload, 1) := by decide +kernel
theorem dX6_simulateRanks_105 : decode cX6_simulateRanks 105 = .ok (.iadd, 1) := by decide +kernel
theorem dX6_simulateRanks_106 : decode cX6_simulateRanks 106 = .ok (.istore_n 3, 1) := by decide +kernel
theorem dX6_simulateRanks_107 : decode cX6_simulateRanks 107 = .ok (.iload 5, 2) := by decide +kernel
theorem dX6_simulateRanks_109 : decode cX6_simulateRanks 109 = .ok (.iconst 1, 1) := by decide +kernel
theorem dX6_simulateRanks_110 : decode cX6_simulateRanks 110 = .ok (.iload 7, 2) := by decide +kernel
theorem dX6_simulateRanks_112 : decode cX6_simulateRanks 112 = .ok (.iconst 1, 1) := by decide +kernel
theorem dX6_simulateRanks_113 : decode cX6_simulateRanks 113 = .ok (.isub, 1) := by decide +kernel
theorem dX6_simulateRanks_114 : decode cX6_simulateRanks 114 = .ok (.ishl, 1) := by decide +kernel
theorem dX6_simulateRanks_115 : decode cX6_simulateRanks 115 = .ok (.ior, 1) := by decide +kernel
theorem dX6_simulateRanks_116 : decode cX6_simulateRanks 116 = .ok (.istore 5, 2) := by decide +kernel
theorem dX6_simulateRanks_118 : decode cX6_simulateRanks 118 = .ok (.iinc 6 (-1), 3) := by decide +kernel
theorem dX6_simulateRanks_121 : decode cX6_simulateRanks 121 = .ok (.iinc 7 1, 3) := by decide +kernel
theorem dX6_simulateRanks_124 : decode cX6_simulateRanks 124 = .ok (.goto (-83), 3) := by decide +kernel
theorem dX6_simulateRanks_127 : decode cX6_simulateRanks 127 = .ok (.iload_n 2, 1) := by decide +kernel
theorem dX6_simulateRanks_128 : decode cX6_simulateRanks 128 = .ok (.ifCond .ne 7, 3) := by decide +kernel
theorem dX6_simulateRanks_131 : decode cX6_simulateRanks 131 = .ok (.iload_n 3, 1) := by decide +kernel
theorem dX6_simulateRanks_132 : decode cX6_simulateRanks 132 = .ok (.goto 15, 3) := by decide +kernel
theorem dX6_simulateRanks_135 : decode cX6_simulateRanks 135 = .ok (.iload_n 2, 1) := by decide +kernel
theorem dX6_simulateRanks_136 : decode cX6_simulateRanks 136 = .ok (.iconst 1, 1) := by decide +kernel
theorem dX6_simulateRanks_137 : decode cX6_simulateRanks 137 = .ok (.if_icmp .ne 8, 3) := by decide +kernel
theorem dX6_simulateRanks_140 : decode cX6_simulateRanks 140 = .ok (.iload 4, 2) := by decide +kernel
theorem dX6_simulateRanks_142 : decode cX6_simulateRanks 142 = .ok (.goto 5, 3) := by decide +kernel
theorem dX6_simulateRanks_145 : decode cX6_simulateRanks 145 = .ok (.iload 5, 2) := by decide +kernel
theorem dX6_simulateRanks_147 : decode cX6_simulateRanks 147 = .ok (.ireturn, 1) := by decide +kernel
theorem dX6_drawsLevel_0 : decode cX6_drawsLevel 0 = .ok (.aload_n 0, 1) := by decide +kernel
theorem dX6_drawsLevel_1 : decode cX6_drawsLevel 1 = .ok (.invokevirtual 224, 3) := by decide +kernel
theorem dX6_drawsLevel_4 : decode cX6_drawsLevel 4 = .ok (.bipush 10, 2) := by decide +kernel
theorem dX6_drawsLevel_6 : decode cX6_drawsLevel 6 = .ok (.irem, 1) := by decide +kernel
theorem dX6_drawsLevel_7 : decode cX6_drawsLevel 7 = .ok (.istore_n 1, 1) := by decide +kernel
theorem dX6_drawsLevel_8 : decode cX6_drawsLevel 8 = .ok (.iconst 0, 1) := by decide +kernel
theorem dX6_drawsLevel_9 : decode cX6_drawsLevel 9 = .ok (.istore_n 2, 1) := by decide +kernel
theorem dX6_drawsLevel_10 : decode cX6_drawsLevel 10 = .ok (.aload_n 0, 1) := by decide +kernel
theorem dX6_drawsLevel_11 : decode cX6_drawsLevel 11 = .ok (.getfield 7, 3) := by decide +kernel
theorem dX6_drawsLevel_14 : decode cX6_drawsLevel 14 = .ok (.bipush 15, 2) := by decide +kernel
theorem dX6_drawsLevel_16 : decode cX6_drawsLevel 16 = .ok (.iaload, 1) := by decide +kernel
theorem dX6_drawsLevel_17 : decode cX6_drawsLevel 17 = .ok (.istore_n 3, 1) := by decide +kernel
theorem dX6_drawsLevel_18 : decode cX6_drawsLevel 18 = .ok (.iload_n 1, 1) := by decide +kernel
theorem dX6_drawsLevel_19 : decode cX6_drawsLevel 19 = .ok (.iload_n 3, 1) := by decide +kernel
theorem dX6_drawsLevel_20 : decode cX6_drawsLevel 20 = .ok (.if_icmp .lt 21, 3) := by decide +kernel
theorem dX6_drawsLevel_23 : decode cX6_drawsLevel 23 = .ok (.iinc 2 1, 3) := by decide +kernel
theorem dX6_drawsLevel_26 : decode cX6_drawsLevel 26 = .ok (.iload_n 3, 1) := by decide +kernel
theorem dX6_drawsLevel_27 : decode cX6_drawsLevel 27 = .ok (.aload_n 0, 1) := by decide +kernel
theorem dX6_drawsLevel_28 : decode cX6_drawsLevel 28 = .ok (.getfield 7, 3) := by decide +kernel
theorem dX6_drawsLevel_31 : decode cX6_drawsLevel 31 = .ok (.bipush 15, 2) := by decide +kernel
theorem dX6_drawsLevel_33 : decode cX6_drawsLevel 33 = .ok (.iload_n 2, 1) := by decide +kernel
theorem dX6_drawsLevel_34 : decode cX6_drawsLevel 34 = .ok (.iadd, 1) := by decide +kernel
theorem dX6_drawsLevel_35 : decode cX6_drawsLevel 35 = .ok (.iaload, 1) := by decide +kernel
theorem dX6_drawsLevel_36 : decode cX6_drawsLevel 36 = .ok (.iadd, 1) := by decide +kernel
theorem dX6_drawsLevel_37 : decode cX6_drawsLevel 37 = .ok (.istore_n 3, 1) := by decide +kernel
theorem dX6_drawsLevel_38 : decode cX6_drawsLevel 38 = .ok (.goto (-20), 3) := by decide +kernel
theorem dX6_drawsLevel_41 : decode cX6_drawsLevel 41 = .ok (.iload_n 2, 1) := by decide +kernel
theorem dX6_drawsLevel_42 : decode cX6_drawsLevel 42 = .ok (.ireturn, 1) := by decide +kernel
theorem dX6_triesRecall_0 : decode cX6_triesRecall 0 = .ok (.aload_n 0, 1) := by decide +kernel
theorem dX6_triesRecall_1 : decode cX6_triesRecall 1 = .ok (.iload_n 1, 1) := by decide +kernel
theorem dX6_triesRecall_2 : decode cX6_triesRecall 2 = .ok (.aload_n 0, 1) := by decide +kernel
theorem dX6_triesRecall_3 : decode cX6_triesRecall 3 = .ok (.getfield 230, 3) := by decide +kernel
theorem dX6_triesRecall_6 : decode cX6_triesRecall 6 = .ok (.aload_n 0, 1) := by decide +kernel
theorem dX6_triesRecall_7 : decode cX6_triesRecall 7 = .ok (.getfield 233, 3) := by decide +kernel
theorem dX6_triesRecall_10 : decode cX6_triesRecall 10 = .ok (.aload_n 0, 1) := by decide +kernel
theorem dX6_triesRecall_11 : decode cX6_triesRecall 11 = .ok (.getfield 236, 3) := by decide +kernel
theorem dX6_triesRecall_14 : decode cX6_triesRecall 14 = .ok (.invokevirtual 203, 3) := by decide +kernel
theorem dX6_triesRecall_17 : decode cX6_triesRecall 17 = .ok (.istore_n 2, 1) := by decide +kernel
theorem dX6_triesRecall_18 : decode cX6_triesRecall 18 = .ok (.iload_n 2, 1) := by decide +kernel
theorem dX6_triesRecall_19 : decode cX6_triesRecall 19 = .ok (.ifCond .ne 4, 3) := by decide +kernel
theorem dX6_triesRecall_22 : decode cX6_triesRecall 22 = .ok (.return_, 1) := by decide +kernel
theorem dX6_triesRecall_23 : decode cX6_triesRecall 23 = .ok (.iload_n 2, 1) := by decide +kernel
theorem dX6_triesRecall_24 : decode cX6_triesRecall 24 = .ok (.iconst 1, 1) := by decide +kernel
theorem dX6_triesRecall_25 : decode cX6_triesRecall 25 = .ok (.if_icmp .ne 10, 3) := by decide +kernel
theorem dX6_triesRecall_28 : decode cX6_triesRecall 28 = .ok (.aload_n 0, 1) := by decide +kernel
theorem dX6_triesRecall_29 : decode cX6_triesRecall 29 = .ok (.getfield 233, 3) := by decide +kernel
theorem dX6_triesRecall_32 : decode cX6_triesRecall 32 = .ok (.goto 7, 3) := by decide +kernel
theorem dX6_triesRecall_35 : decode cX6_triesRecall 35 = .ok (.aload_n 0, 1) := by decide +kernel
theorem dX6_triesRecall_36 : decode cX6_triesRecall 36 = .ok (.getfield 236, 3) := by decide +kernel
theorem dX6_triesRecall_39 : decode cX6_triesRecall 39 = .ok (.istore_n 3, 1) := by decide +kernel
theorem dX6_triesRecall_40 : decode cX6_triesRecall 40 = .ok (.aload_n 0, 1) := by decide +kernel
theorem dX6_triesRecall_41 : decode cX6_triesRecall 41 = .ok (.getfield 48, 3) := by decide +kernel
theorem dX6_triesRecall_44 : decode cX6_triesRecall 44 = .ok (.iconst 3, 1) := by decide +kernel
theorem dX6_triesRecall_45 : decode cX6_triesRecall 45 = .ok (.dup2, 1) := by decide +kernel
theorem dX6_triesRecall_46 : decode cX6_triesRecall 46 = .ok (.iaload, 1) := by decide +kernel
theorem dX6_triesRecall_47 : decode cX6_triesRecall 47 = .ok (.iconst 1, 1) := by decide +kernel
theorem dX6_triesRecall_48 : decode cX6_triesRecall 48 = .ok (.iadd, 1) := by decide +kernel
theorem dX6_triesRecall_49 : decode cX6_triesRecall 49 = .ok (.iastore, 1) := by decide +kernel
theorem dX6_triesRecall_50 : decode cX6_triesRecall 50 = .ok (.aload_n 0, 1) := by decide +kernel
theorem dX6_triesRecall_51 : decode cX6_triesRecall 51 = .ok (.iload_n 2, 1) := by decide +kernel
theorem dX6_triesRecall_52 : decode cX6_triesRecall 52 = .ok (.iconst 1, 1) := by decide +kernel
theorem dX6_triesRecall_53 : decode cX6_triesRecall 53 = .ok (.if_icmp .ne 7, 3) := by decide +kernel
theorem dX6_triesRecall_56 : decode cX6_triesRecall 56 = .ok (.iconst 5, 1) := by decide +kernel
theorem dX6_triesRecall_57 : decode cX6_triesRecall 57 = .ok (.goto 7, 3) := by decide +kernel
theorem dX6_triesRecall_60 : decode cX6_triesRecall 60 = .ok (.aload_n 0, 1) := by decide +kernel
theorem dX6_triesRecall_61 : decode cX6_triesRecall 61 = .ok (.getfield 233, 3) := by decide +kernel
theorem dX6_triesRecall_64 : decode cX6_triesRecall 64 = .ok (.putfield 233, 3) := by decide +kernel
theorem dX6_triesRecall_67 : decode cX6_triesRecall 67 = .ok (.aload_n 0, 1) := by decide +kernel
theorem dX6_triesRecall_68 : decode cX6_triesRecall 68 = .ok (.iload_n 2, 1) := by decide +kernel
theorem dX6_triesRecall_69 : decode cX6_triesRecall 69 = .ok (.iconst 2, 1) := by decide +kernel
theorem dX6_triesRecall_70 : decode cX6_triesRecall 70 = .ok (.if_icmp .ne 7, 3) := by decide +kernel
theorem dX6_triesRecall_73 : decode cX6_triesRecall 73 = .ok (.iconst 5, 1) := by decide +kernel
theorem dX6_triesRecall_74 : decode cX6_triesRecall 74 = .ok (.goto 7, 3) := by decide +kernel
theorem dX6_triesRecall_77 : decode cX6_triesRecall 77 = .ok (.aload_n 0, 1) := by decide +kernel
theorem dX6_triesRecall_78 : decode cX6_triesRecall 78 = .ok (.getfield 236, 3) := by decide +kernel
theorem dX6_triesRecall_81 : decode cX6_triesRecall 81 = .ok (.putfield 236, 3) := by decide +kernel
theorem dX6_triesRecall_84 : decode cX6_triesRecall 84 = .ok (.aload_n 0, 1) := by decide +kernel
theorem dX6_triesRecall_85 : decode cX6_triesRecall 85 = .ok (.invokevirtual 224, 3) := by decide +kernel
theorem dX6_triesRecall_88 : decode cX6_triesRecall 88 = .ok (.bipush 10, 2) := by decide +kernel
theorem dX6_triesRecall_90 : decode cX6_triesRecall 90 = .ok (.irem, 1) := by decide +kernel
theorem dX6_triesRecall_91 : decode cX6_triesRecall 91 = .ok (.aload_n 0, 1) := by decide +kernel
theorem dX6_triesRecall_92 : decode cX6_triesRecall 92 = .ok (.getfield 7, 3) := by decide +kernel
theorem dX6_triesRecall_95 : decode cX6_triesRecall 95 = .ok (.bipush 20, 2) := by decide +kernel
theorem dX6_triesRecall_97 : decode cX6_triesRecall 97 = .ok (.iload_n 2, 1) := by decide +kernel
theorem dX6_triesRecall_98 : decode cX6_triesRecall 98 = .ok (.iadd, 1) := by decide +kernel
theorem dX6_triesRecall_99 : decode cX6_triesRecall 99 = .ok (.iconst 1, 1) := by decide +kernel
theorem dX6_triesRecall_100 : decode cX6_triesRecall 100 = .ok (.isub, 1) := by decide +kernel
theorem dX6_triesRecall_101 : decode cX6_triesRecall 101 = .ok (.iaload, 1) := by decide +kernel
theorem dX6_triesRecall_102 : decode cX6_triesRecall 102 = .ok (.if_icmp .ge 37, 3) := by decide +kernel
theorem dX6_triesRecall_105 : decode cX6_triesRecall 105 = .ok (.aload_n 0, 1) := by decide +kernel
theorem dX6_triesRecall_106 : decode cX6_triesRecall 106 = .ok (.getfield 48, 3) := by decide +kernel
theorem dX6_triesRecall_109 : decode cX6_triesRecall 109 = .ok (.iconst 4, 1) := by decide +kernel
theorem dX6_triesRecall_110 : decode cX6_triesRecall 110 = .ok (.dup2, 1) := by decide +kernel
theorem dX6_triesRecall_111 : decode cX6_triesRecall 111 = .ok (.iaload, 1) := by decide +kernel
theorem dX6_triesRecall_112 : decode cX6_triesRecall 112 = .ok (.iconst 1, 1) := by decide +kernel
theorem dX6_triesRecall_113 : decode cX6_triesRecall 113 = .ok (.iadd, 1) := by decide +kernel
theorem dX6_triesRecall_114 : decode cX6_triesRecall 114 = .ok (.iastore, 1) := by decide +kernel
theorem dX6_triesRecall_115 : decode cX6_triesRecall 115 = .ok (.aload_n 0, 1) := by decide +kernel
theorem dX6_triesRecall_116 : decode cX6_triesRecall 116 = .ok (.getfield 48, 3) := by decide +kernel
theorem dX6_triesRecall_119 : decode cX6_triesRecall 119 = .ok (.iconst 0, 1) := by decide +kernel
theorem dX6_triesRecall_120 : decode cX6_triesRecall 120 = .ok (.dup2, 1) := by decide +kernel
theorem dX6_triesRecall_121 : decode cX6_triesRecall 121 = .ok (.iaload, 1) := by decide +kernel
theorem dX6_triesRecall_122 : decode cX6_triesRecall 122 = .ok (.aload_n 0, 1) := by decide +kernel
theorem dX6_triesRecall_123 : decode cX6_triesRecall 123 = .ok (.iload_n 3, 1) := by decide +kernel
theorem dX6_triesRecall_124 : decode cX6_triesRecall 124 = .ok (.invokevirtual 143, 3) := by decide +kernel
theorem dX6_triesRecall_127 : decode cX6_triesRecall 127 = .ok (.iadd, 1) := by decide +kernel
theorem dX6_triesRecall_128 : decode cX6_triesRecall 128 = .ok (.iastore, 1) := by decide +kernel
theorem dX6_triesRecall_129 : decode cX6_triesRecall 129 = .ok (.aload_n 0, 1) := by decide +kernel
theorem dX6_triesRecall_130 : decode cX6_triesRecall 130 = .ok (.dup, 1) := by decide +kernel
theorem dX6_triesRecall_131 : decode cX6_triesRecall 131 = .ok (.getfield 230, 3) := by decide +kernel
theorem dX6_triesRecall_134 : decode cX6_triesRecall 134 = .ok (.iconst 1, 1) := by decide +kernel
theorem dX6_triesRecall_135 : decode cX6_triesRecall 135 = .ok (.isub, 1) := by decide +kernel
theorem dX6_triesRecall_136 : decode cX6_triesRecall 136 = .ok (.putfield 230, 3) := by decide +kernel
theorem dX6_triesRecall_139 : decode cX6_triesRecall 139 = .ok (.return_, 1) := by decide +kernel
theorem dX6_observesNext_0 : decode cX6_observesNext 0 = .ok (.aload_n 0, 1) := by decide +kernel
theorem dX6_observesNext_1 : decode cX6_observesNext 1 = .ok (.invokevirtual 239, 3) := by decide +kernel
theorem dX6_observesNext_4 : decode cX6_observesNext 4 = .ok (.istore_n 2, 1) := by decide +kernel
theorem dX6_observesNext_5 : decode cX6_observesNext 5 = .ok (.aload_n 0, 1) := by decide +kernel
theorem dX6_observesNext_6 : decode cX6_observesNext 6 = .ok (.iload_n 1, 1) := by decide +kernel
theorem dX6_observesNext_7 : decode cX6_observesNext 7 = .ok (.aload_n 0, 1) := by decide +kernel
theorem dX6_observesNext_8 : decode cX6_observesNext 8 = .ok (.getfield 230, 3) := by decide +kernel
theorem dX6_observesNext_11 : decode cX6_observesNext 11 = .ok (.aload_n 0, 1) := by decide +kernel
theorem dX6_observesNext_12 : decode cX6_observesNext 12 = .ok (.getfield 233, 3) := by decide +kernel
theorem dX6_observesNext_15 : decode cX6_observesNext 15 = .ok (.iload_n 2, 1) := by decide +kernel
theorem dX6_observesNext_16 : decode cX6_observesNext 16 = .ok (.invokevirtual 206, 3) := by decide +kernel
theorem dX6_observesNext_19 : decode cX6_observesNext 19 = .ok (.istore_n 3, 1) := by decide +kernel
theorem dX6_observesNext_20 : decode cX6_observesNext 20 = .ok (.aload_n 0, 1) := by decide +kernel
theorem dX6_observesNext_21 : decode cX6_observesNext 21 = .ok (.getfield 48, 3) := by decide +kernel
theorem dX6_observesNext_24 : decode cX6_observesNext 24 = .ok (.iconst 1, 1) := by decide +kernel
theorem dX6_observesNext_25 : decode cX6_observesNext 25 = .ok (.dup2, 1) := by decide +kernel
theorem dX6_observesNext_26 : decode cX6_observesNext 26 = .ok (.iaload, 1) := by decide +kernel
theorem dX6_observesNext_27 : decode cX6_observesNext 27 = .ok (.iconst 1, 1) := by decide +kernel
theorem dX6_observesNext_28 : decode cX6_observesNext 28 = .ok (.iadd, 1) := by decide +kernel
theorem dX6_observesNext_29 : decode cX6_observesNext 29 = .ok (.iastore, 1) := by decide +kernel
theorem dX6_observesNext_30 : decode cX6_observesNext 30 = .ok (.aload_n 0, 1) := by decide +kernel
theorem dX6_observesNext_31 : decode cX6_observesNext 31 = .ok (.aload_n 0, 1) := by decide +kernel
theorem dX6_observesNext_32 : decode cX6_observesNext 32 = .ok (.getfield 233, 3) := by decide +kernel
theorem dX6_observesNext_35 : decode cX6_observesNext 35 = .ok (.putfield 236, 3) := by decide +kernel
theorem dX6_observesNext_38 : decode cX6_observesNext 38 = .ok (.aload_n 0, 1) := by decide +kernel
theorem dX6_observesNext_39 : decode cX6_observesNext 39 = .ok (.iload_n 3, 1) := by decide +kernel
theorem dX6_observesNext_40 : decode cX6_observesNext 40 = .ok (.ifCond .eq 7, 3) := by decide +kernel
theorem dX6_observesNext_43 : decode cX6_observesNext 43 = .ok (.iconst 5, 1) := by decide +kernel
theorem dX6_observesNext_44 : decode cX6_observesNext 44 = .ok (.goto 4, 3) := by decide +kernel
theorem dX6_observesNext_47 : decode cX6_observesNext 47 = .ok (.iload_n 2, 1) := by decide +kernel
theorem dX6_observesNext_48 : decode cX6_observesNext 48 = .ok (.putfield 233, 3) := by decide +kernel
theorem dX6_observesNext_51 : decode cX6_observesNext 51 = .ok (.iload_n 3, 1) := by decide +kernel
theorem dX6_observesNext_52 : decode cX6_observesNext 52 = .ok (.ifCond .eq 41, 3) := by decide +kernel
theorem dX6_observesNext_55 : decode cX6_observesNext 55 = .ok (.aload_n 0, 1) := by decide +kernel
theorem dX6_observesNext_56 : decode cX6_observesNext 56 = .ok (.getfield 48, 3) := by decide +kernel
theorem dX6_observesNext_59 : decode cX6_observesNext 59 = .ok (.iconst 0, 1) := by decide +kernel
theorem dX6_observesNext_60 : decode cX6_observesNext 60 = .ok (.dup2, 1) := by decide +kernel
theorem dX6_observesNext_61 : decode cX6_observesNext 61 = .ok (.iaload, 1) := by decide +kernel
theorem dX6_observesNext_62 : decode cX6_observesNext 62 = .ok (.aload_n 0, 1) := by decide +kernel
theorem dX6_observesNext_63 : decode cX6_observesNext 63 = .ok (.iload_n 2, 1) := by decide +kernel
theorem dX6_observesNext_64 : decode cX6_observesNext 64 = .ok (.invokevirtual 143, 3) := by decide +kernel
theorem dX6_observesNext_67 : decode cX6_observesNext 67 = .ok (.iadd, 1) := by decide +kernel
theorem dX6_observesNext_68 : decode cX6_observesNext 68 = .ok (.iastore, 1) := by decide +kernel
theorem dX6_observesNext_69 : decode cX6_observesNext 69 = .ok (.aload_n 0, 1) := by decide +kernel
theorem dX6_observesNext_70 : decode cX6_observesNext 70 = .ok (.getfield 48, 3) := by decide +kernel
theorem dX6_observesNext_73 : decode cX6_observesNext 73 = .ok (.iconst 2, 1) := by decide +kernel
theorem dX6_observesNext_74 : decode cX6_observesNext 74 = .ok (.dup2, 1) := by decide +kernel
theorem dX6_observesNext_75 : decode cX6_observesNext 75 = .ok (.iaload, 1) := by decide +kernel
theorem dX6_observesNext_76 : decode cX6_observesNext 76 = .ok (.iconst 1, 1) := by decide +kernel
theorem dX6_observesNext_77 : decode cX6_observesNext 77 = .ok (.iload_n 1, 1) := by decide +kernel
theorem dX6_observesNext_78 : decode cX6_observesNext 78 = .ok (.iconst 1, 1) := by decide +kernel
theorem dX6_observesNext_79 : decode cX6_observesNext 79 = .ok (.isub, 1) := by decide +kernel
theorem dX6_observesNext_80 : decode cX6_observesNext 80 = .ok (.ishl, 1) := by decide +kernel
theorem dX6_observesNext_81 : decode cX6_observesNext 81 = .ok (.ior, 1) := by decide +kernel
theorem dX6_observesNext_82 : decode cX6_observesNext 82 = .ok (.iastore, 1) := by decide +kernel
theorem dX6_observesNext_83 : decode cX6_observesNext 83 = .ok (.aload_n 0, 1) := by decide +kernel
theorem dX6_observesNext_84 : decode cX6_observesNext 84 = .ok (.dup, 1) := by decide +kernel
theorem dX6_observesNext_85 : decode cX6_observesNext 85 = .ok (.getfield 230, 3) := by decide +kernel
theorem dX6_observesNext_88 : decode cX6_observesNext 88 = .ok (.iconst 1, 1) := by decide +kernel
theorem dX6_observesNext_89 : decode cX6_observesNext 89 = .ok (.isub, 1) := by decide +kernel
theorem dX6_observesNext_90 : decode cX6_observesNext 90 = .ok (.putfield 230, 3) := by decide +kernel
theorem dX6_observesNext_93 : decode cX6_observesNext 93 = .ok (.return_, 1) := by decide +kernel
theorem dX6_simulateValues_0 : decode cX6_simulateValues 0 = .ok (.iload_n 2, 1) := by decide +kernel
theorem dX6_simulateValues_1 : decode cX6_simulateValues 1 = .ok (.iconst 0, 1) := by decide +kernel
theorem dX6_simulateValues_2 : decode cX6_simulateValues 2 = .ok (.iconst 4, 1) := by decide +kernel
theorem dX6_simulateValues_3 : decode cX6_simulateValues 3 = .ok (.invokestatic 69, 3) := by decide +kernel
theorem dX6_simulateValues_6 : decode cX6_simulateValues 6 = .ok (.ifCond .ne 5, 3) := by decide +kernel
theorem dX6_simulateValues_9 : decode cX6_simulateValues 9 = .ok (.iconst (-1), 1) := by decide +kernel
theorem dX6_simulateValues_10 : decode cX6_simulateValues 10 = .ok (.ireturn, 1) := by decide +kernel
theorem dX6_simulateValues_11 : decode cX6_simulateValues 11 = .ok (.aload_n 0, 1) := by decide +kernel
theorem dX6_simulateValues_12 : decode cX6_simulateValues 12 = .ok (.invokevirtual 178, 3) := by decide +kernel
theorem dX6_simulateValues_15 : decode cX6_simulateValues 15 = .ok (.aload_n 0, 1) := by decide +kernel
theorem dX6_simulateValues_16 : decode cX6_simulateValues 16 = .ok (.iload_n 1, 1) := by decide +kernel
theorem dX6_simulateValues_17 : decode cX6_simulateValues 17 = .ok (.putfield 220, 3) := by decide +kernel
theorem dX6_simulateValues_20 : decode cX6_simulateValues 20 = .ok (.aload_n 0, 1) := by decide +kernel
theorem dX6_simulateValues_21 : decode cX6_simulateValues 21 = .ok (.aload_n 0, 1) := by decide +kernel
theorem dX6_simulateValues_22 : decode cX6_simulateValues 22 = .ok (.invokevirtual 184, 3) := by decide +kernel
theorem dX6_simulateValues_25 : decode cX6_simulateValues 25 = .ok (.putfield 230, 3) := by decide +kernel
theorem dX6_simulateValues_28 : decode cX6_simulateValues 28 = .ok (.aload_n 0, 1) := by decide +kernel
theorem dX6_simulateValues_29 : decode cX6_simulateValues 29 = .ok (.iconst 5, 1) := by decide +kernel
theorem dX6_simulateValues_30 : decode cX6_simulateValues 30 = .ok (.putfield 233, 3) := by decide +kernel
theorem dX6_simulateValues_33 : decode cX6_simulateValues 33 = .ok (.aload_n 0, 1) := by decide +kernel
theorem dX6_simulateValues_34 : decode cX6_simulateValues 34 = .ok (.iconst 5, 1) := by decide +kernel
theorem dX6_simulateValues_35 : decode cX6_simulateValues 35 = .ok (.putfield 236, 3) := by decide +kernel
theorem dX6_simulateValues_38 : decode cX6_simulateValues 38 = .ok (.iconst 0, 1) := by decide +kernel
theorem dX6_simulateValues_39 : decode cX6_simulateValues 39 = .ok (.istore_n 3, 1) := by decide +kernel
theorem dX6_simulateValues_40 : decode cX6_simulateValues 40 = .ok (.iload_n 3, 1) := by decide +kernel
theorem dX6_simulateValues_41 : decode cX6_simulateValues 41 = .ok (.iconst 5, 1) := by decide +kernel
theorem dX6_simulateValues_42 : decode cX6_simulateValues 42 = .ok (.if_icmp .ge 16, 3) := by decide +kernel
theorem dX6_simulateValues_45 : decode cX6_simulateValues 45 = .ok (.aload_n 0, 1) := by decide +kernel
theorem dX6_simulateValues_46 : decode cX6_simulateValues 46 = .ok (.getfield 48, 3) := by decide +kernel
theorem dX6_simulateValues_49 : decode cX6_simulateValues 49 = .ok (.iload_n 3, 1) := by decide +kernel
theorem dX6_simulateValues_50 : decode cX6_simulateValues 50 = .ok (.iconst 0, 1) := by decide +kernel
theorem dX6_simulateValues_51 : decode cX6_simulateValues 51 = .ok (.iastore, 1) := by decide +kernel
theorem dX6_simulateValues_52 : decode cX6_simulateValues 52 = .ok (.iinc 3 1, 3) := by decide +kernel
theorem dX6_simulateValues_55 : decode cX6_simulateValues 55 = .ok (.goto (-15), 3) := by decide +kernel
theorem dX6_simulateValues_58 : decode cX6_simulateValues 58 = .ok (.iconst 1, 1) := by decide +kernel
theorem dX6_simulateValues_59 : decode cX6_simulateValues 59 = .ok (.istore_n 3, 1) := by decide +kernel
theorem dX6_simulateValues_60 : decode cX6_simulateValues 60 = .ok (.iconst 1, 1) := by decide +kernel
theorem dX6_simulateValues_61 : decode cX6_simulateValues 61 = .ok (.istore 4, 2) := by decide +kernel
theorem dX6_simulateValues_63 : decode cX6_simulateValues 63 = .ok (.iload_n 3, 1) := by decide +kernel
theorem dX6_simulateValues_64 : decode cX6_simulateValues 64 = .ok (.ifCond .eq 58, 3) := by decide +kernel
theorem dX6_simulateValues_67 : decode cX6_simulateValues 67 = .ok (.aload_n 0, 1) := by decide +kernel
theorem dX6_simulateValues_68 : decode cX6_simulateValues 68 = .ok (.iload 4, 2) := by decide +kernel
theorem dX6_simulateValues_70 : decode cX6_simulateValues 70 = .ok (.invokevirtual 242, 3) := by decide +kernel
theorem dX6_simulateValues_73 : decode cX6_simulateValues 73 = .ok (.aload_n 0, 1) := by decide +kernel
theorem dX6_simulateValues_74 : decode cX6_simulateValues 74 = .ok (.getfield 36, 3) := by decide +kernel
theorem dX6_simulateValues_77 : decode cX6_simulateValues 77 = .ok (.iload 4, 2) := by decide +kernel
theorem dX6_simulateValues_79 : decode cX6_simulateValues 79 = .ok (.aload_n 0, 1) := by decide +kernel
theorem dX6_simulateValues_80 : decode cX6_simulateValues 80 = .ok (.getfield 230, 3) := by decide +kernel
theorem dX6_simulateValues_83 : decode cX6_simulateValues 83 = .ok (.aload_n 0, 1) := by decide +kernel
theorem dX6_simulateValues_84 : decode cX6_simulateValues 84 = .ok (.getfield 233, 3) := by decide +kernel
theorem dX6_simulateValues_87 : decode cX6_simulateValues 87 = .ok (.aload_n 0, 1) := by decide +kernel
theorem dX6_simulateValues_88 : decode cX6_simulateValues 88 = .ok (.getfield 236, 3) := by decide +kernel
theorem dX6_simulateValues_91 : decode cX6_simulateValues 91 = .ok (.invokestatic 148, 3) := by decide +kernel
theorem dX6_simulateValues_94 : decode cX6_simulateValues 94 = .ok (.laload, 1) := by decide +kernel
theorem dX6_simulateValues_95 : decode cX6_simulateValues 95 = .ok (.lconst 0, 1) := by decide +kernel
theorem dX6_simulateValues_96 : decode cX6_simulateValues 96 = .ok (.lcmp, 1) := by decide +kernel
theorem dX6_simulateValues_97 : decode cX6_simulateValues 97 = .ok (.ifCond .le 7, 3) := by decide +kernel
theorem dX6_simulateValues_100 : decode cX6_simulateValues 100 = .ok (.iconst 1, 1) := by decide +kernel
theorem dX6_simulateValues_101 : decode cX6_simulateValues 101 = .ok (.goto 4, 3) := by decide +kernel
theorem dX6_simulateValues_104 : decode cX6_simulateValues 104 = .ok (.iconst 0, 1) := by decide +kernel
theorem dX6_simulateValues_105 : decode cX6_simulateValues 105 = .ok (.istore_n 3, 1) := by decide +kernel
theorem dX6_simulateValues_106 : decode cX6_simulateValues 106 = .ok (.iload_n 3, 1) := by decide +kernel
theorem dX6_simulateValues_107 : decode cX6_simulateValues 107 = .ok (.ifCond .eq 9, 3) := by decide +kernel
theorem dX6_simulateValues_110 : decode cX6_simulateValues 110 = .ok (.aload_n 0, 1) := by decide +kernel
theorem dX6_simulateValues_111 : decode cX6_simulateValues 111 = .ok (.iload 4, 2) := by decide +kernel
theorem dX6_simulateValues_113 : decode cX6_simulateValues 113 = .ok (.invokevirtual 246, 3) := by decide +kernel
theorem dX6_simulateValues_116 : decode cX6_simulateValues 116 = .ok (.iinc 4 1, 3) := by decide +kernel
theorem dX6_simulateValues_119 : decode cX6_simulateValues 119 = .ok (.goto (-56), 3) := by decide +kernel
theorem dX6_simulateValues_122 : decode cX6_simulateValues 122 = .ok (.aload_n 0, 1) := by decide +kernel
theorem dX6_simulateValues_123 : decode cX6_simulateValues 123 = .ok (.getfield 48, 3) := by decide +kernel
theorem dX6_simulateValues_126 : decode cX6_simulateValues 126 = .ok (.iload_n 2, 1) := by decide +kernel
theorem dX6_simulateValues_127 : decode cX6_simulateValues 127 = .ok (.iaload, 1) := by decide +kernel
theorem dX6_simulateValues_128 : decode cX6_simulateValues 128 = .ok (.ireturn, 1) := by decide +kernel
theorem dX6_weighted_0 : decode cX6_weighted 0 = .ok (.iconst 0, 1) := by decide +kernel
theorem dX6_weighted_1 : decode cX6_weighted 1 = .ok (.istore_n 1, 1) := by decide +kernel
theorem dX6_weighted_2 : decode cX6_weighted 2 = .ok (.iconst 0, 1) := by decide +kernel
theorem dX6_weighted_3 : decode cX6_weighted 3 = .ok (.istore_n 2, 1) := by decide +kernel
theorem dX6_weighted_4 : decode cX6_weighted 4 = .ok (.iload_n 2, 1) := by decide +kernel
theorem dX6_weighted_5 : decode cX6_weighted 5 = .ok (.iconst 5, 1) := by decide +kernel
theorem dX6_weighted_6 : decode cX6_weighted 6 = .ok (.if_icmp .ge 29, 3) := by decide +kernel
theorem dX6_weighted_9 : decode cX6_weighted 9 = .ok (.iload_n 1, 1) := by decide +kernel
theorem dX6_weighted_10 : decode cX6_weighted 10 = .ok (.aload_n 0, 1) := by decide +kernel
theorem dX6_weighted_11 : decode cX6_weighted 11 = .ok (.getfield 7, 3) := by decide +kernel
theorem dX6_weighted_14 : decode cX6_weighted 14 = .ok (.bipush 15, 2) := by decide +kernel
theorem dX6_weighted_16 : decode cX6_weighted 16 = .ok (.iload_n 2, 1) := by decide +kernel
theorem dX6_weighted_17 : decode cX6_weighted 17 = .ok (.iadd, 1) := by decide +kernel
theorem dX6_weighted_18 : decode cX6_weighted 18 = .ok (.iaload, 1) := by decide +kernel
theorem dX6_weighted_19 : decode cX6_weighted 19 = .ok (.ifCond .le 7, 3) := by decide +kernel
theorem dX6_weighted_22 : decode cX6_weighted 22 = .ok (.iconst 1, 1) := by decide +kernel
theorem dX6_weighted_23 : decode cX6_weighted 23 = .ok (.goto 4, 3) := by decide +kernel
theorem dX6_weighted_26 : decode cX6_weighted 26 = .ok (.iconst 0, 1) := by decide +kernel
theorem dX6_weighted_27 : decode cX6_weighted 27 = .ok (.iadd, 1) := by decide +kernel
theorem dX6_weighted_28 : decode cX6_weighted 28 = .ok (.istore_n 1, 1) := by decide +kernel
theorem dX6_weighted_29 : decode cX6_weighted 29 = .ok (.iinc 2 1, 3) := by decide +kernel
theorem dX6_weighted_32 : decode cX6_weighted 32 = .ok (.goto (-28), 3) := by decide +kernel
theorem dX6_weighted_35 : decode cX6_weighted 35 = .ok (.iload_n 1, 1) := by decide +kernel
theorem dX6_weighted_36 : decode cX6_weighted 36 = .ok (.ireturn, 1) := by decide +kernel
theorem dX6_quits_0 : decode cX6_quits 0 = .ok (.aload_n 0, 1) := by decide +kernel
theorem dX6_quits_1 : decode cX6_quits 1 = .ok (.invokevirtual 178, 3) := by decide +kernel
theorem dX6_quits_4 : decode cX6_quits 4 = .ok (.iconst 0, 1) := by decide +kernel
theorem dX6_quits_5 : decode cX6_quits 5 = .ok (.istore_n 1, 1) := by decide +kernel
theorem dX6_quits_6 : decode cX6_quits 6 = .ok (.iconst 1, 1) := by decide +kernel
theorem dX6_quits_7 : decode cX6_quits 7 = .ok (.istore_n 2, 1) := by decide +kernel
theorem dX6_quits_8 : decode cX6_quits 8 = .ok (.iload_n 2, 1) := by decide +kernel
theorem dX6_quits_9 : decode cX6_quits 9 = .ok (.aload_n 0, 1) := by decide +kernel
theorem dX6_quits_10 : decode cX6_quits 10 = .ok (.invokevirtual 123, 3) := by decide +kernel
theorem dX6_quits_13 : decode cX6_quits 13 = .ok (.if_icmp .gt 48, 3) := by decide +kernel
theorem dX6_quits_16 : decode cX6_quits 16 = .ok (.iconst 1, 1) := by decide +kernel
theorem dX6_quits_17 : decode cX6_quits 17 = .ok (.istore_n 3, 1) := by decide +kernel
theorem dX6_quits_18 : decode cX6_quits 18 = .ok (.iload_n 3, 1) := by decide +kernel
theorem dX6_quits_19 : decode cX6_quits 19 = .ok (.aload_n 0, 1) := by decide +kernel
theorem dX6_quits_20 : decode cX6_quits 20 = .ok (.invokevirtual 184, 3) := by decide +kernel
theorem dX6_quits_23 : decode cX6_quits 23 = .ok (.if_icmp .gt 32, 3) := by decide +kernel
theorem dX6_quits_26 : decode cX6_quits 26 = .ok (.iload_n 1, 1) := by decide +kernel
theorem dX6_quits_27 : decode cX6_quits 27 = .ok (.aload_n 0, 1) := by decide +kernel
theorem dX6_quits_28 : decode cX6_quits 28 = .ok (.getfield 30, 3) := by decide +kernel
theorem dX6_quits_31 : decode cX6_quits 31 = .ok (.iload_n 2, 1) := by decide +kernel
theorem dX6_quits_32 : decode cX6_quits 32 = .ok (.iload_n 3, 1) := by decide +kernel
theorem dX6_quits_33 : decode cX6_quits 33 = .ok (.invokestatic 138, 3) := by decide +kernel
theorem dX6_quits_36 : decode cX6_quits 36 = .ok (.laload, 1) := by decide +kernel
theorem dX6_quits_37 : decode cX6_quits 37 = .ok (.lconst 0, 1) := by decide +kernel
theorem dX6_quits_38 : decode cX6_quits 38 = .ok (.lcmp, 1) := by decide +kernel
theorem dX6_quits_39 : decode cX6_quits 39 = .ok (.ifCond .ne 7, 3) := by decide +kernel
theorem dX6_quits_42 : decode cX6_quits 42 = .ok (.iconst 1, 1) := by decide +kernel
theorem dX6_quits_43 : decode cX6_quits 43 = .ok (.goto 4, 3) := by decide +kernel
theorem dX6_quits_46 : decode cX6_quits 46 = .ok (.iconst 0, 1) := by decide +kernel
theorem dX6_quits_47 : decode cX6_quits 47 = .ok (.iadd, 1) := by decide +kernel
theorem dX6_quits_48 : decode cX6_quits 48 = .ok (.istore_n 1, 1) := by decide +kernel
theorem dX6_quits_49 : decode cX6_quits 49 = .ok (.iinc 3 1, 3) := by decide +kernel
theorem dX6_quits_52 : decode cX6_quits 52 = .ok (.goto (-34), 3) := by decide +kernel
theorem dX6_quits_55 : decode cX6_quits 55 = .ok (.iinc 2 1, 3) := by decide +kernel
theorem dX6_quits_58 : decode cX6_quits 58 = .ok (.goto (-50), 3) := by decide +kernel
theorem dX6_quits_61 : decode cX6_quits 61 = .ok (.iload_n 1, 1) := by decide +kernel
theorem dX6_quits_62 : decode cX6_quits 62 = .ok (.ireturn, 1) := by decide +kernel
theorem dX6_count_0 : decode cX6_count 0 = .ok (.iload_n 1, 1) := by decide +kernel
theorem dX6_count_1 : decode cX6_count 1 = .ok (.tableswitch 51 0 3 #[31, 36, 41, 46], 31) := by decide +kernel
theorem dX6_count_32 : decode cX6_count 32 = .ok (.aload_n 0, 1) := by decide +kernel
theorem dX6_count_33 : decode cX6_count 33 = .ok (.getfield 81, 3) := by decide +kernel
theorem dX6_count_36 : decode cX6_count 36 = .ok (.ireturn, 1) := by decide +kernel
theorem dX6_count_37 : decode cX6_count 37 = .ok (.aload_n 0, 1) := by decide +kernel
theorem dX6_count_38 : decode cX6_count 38 = .ok (.getfield 51, 3) := by decide +kernel
theorem dX6_count_41 : decode cX6_count 41 = .ok (.ireturn, 1) := by decide +kernel
theorem dX6_count_42 : decode cX6_count 42 = .ok (.aload_n 0, 1) := by decide +kernel
theorem dX6_count_43 : decode cX6_count 43 = .ok (.invokevirtual 249, 3) := by decide +kernel
theorem dX6_count_46 : decode cX6_count 46 = .ok (.ireturn, 1) := by decide +kernel
theorem dX6_count_47 : decode cX6_count 47 = .ok (.aload_n 0, 1) := by decide +kernel
theorem dX6_count_48 : decode cX6_count 48 = .ok (.invokevirtual 252, 3) := by decide +kernel
theorem dX6_count_51 : decode cX6_count 51 = .ok (.ireturn, 1) := by decide +kernel
theorem dX6_count_52 : decode cX6_count 52 = .ok (.iconst (-1), 1) := by decide +kernel
theorem dX6_count_53 : decode cX6_count 53 = .ok (.ireturn, 1) := by decide +kernel
theorem dX6_mixes_0 : decode cX6_mixes 0 = .ok (.aload_n 0, 1) := by decide +kernel
theorem dX6_mixes_1 : decode cX6_mixes 1 = .ok (.ldc2_w 255, 3) := by decide +kernel
theorem dX6_mixes_4 : decode cX6_mixes 4 = .ok (.aload_n 0, 1) := by decide +kernel
theorem dX6_mixes_5 : decode cX6_mixes 5 = .ok (.getfield 257, 3) := by decide +kernel
theorem dX6_mixes_8 : decode cX6_mixes 8 = .ok (.lmul, 1) := by decide +kernel
theorem dX6_mixes_9 : decode cX6_mixes 9 = .ok (.lload_n 1, 1) := by decide +kernel
theorem dX6_mixes_10 : decode cX6_mixes 10 = .ok (.ladd, 1) := by decide +kernel
theorem dX6_mixes_11 : decode cX6_mixes 11 = .ok (.putfield 257, 3) := by decide +kernel
theorem dX6_mixes_14 : decode cX6_mixes 14 = .ok (.return_, 1) := by decide +kernel
theorem dX6_mixesFraction_0 : decode cX6_mixesFraction 0 = .ok (.aload_n 0, 1) := by decide +kernel
theorem dX6_mixesFraction_1 : decode cX6_mixesFraction 1 = .ok (.lload_n 1, 1) := by decide +kernel
theorem dX6_mixesFraction_2 : decode cX6_mixesFraction 2 = .ok (.invokevirtual 260, 3) := by decide +kernel
theorem dX6_mixesFraction_5 : decode cX6_mixesFraction 5 = .ok (.aload_n 0, 1) := by decide +kernel
theorem dX6_mixesFraction_6 : decode cX6_mixesFraction 6 = .ok (.aload_n 0, 1) := by decide +kernel
theorem dX6_mixesFraction_7 : decode cX6_mixesFraction 7 = .ok (.getfield 16, 3) := by decide +kernel
theorem dX6_mixesFraction_10 : decode cX6_mixesFraction 10 = .ok (.invokevirtual 260, 3) := by decide +kernel
theorem dX6_mixesFraction_13 : decode cX6_mixesFraction 13 = .ok (.return_, 1) := by decide +kernel
theorem dX6_mixesAll_0 : decode cX6_mixesAll 0 = .ok (.iconst 0, 1) := by decide +kernel
theorem dX6_mixesAll_1 : decode cX6_mixesAll 1 = .ok (.istore_n 1, 1) := by decide +kernel
theorem dX6_mixesAll_2 : decode cX6_mixesAll 2 = .ok (.iload_n 1, 1) := by decide +kernel
theorem dX6_mixesAll_3 : decode cX6_mixesAll 3 = .ok (.aload_n 0, 1) := by decide +kernel
theorem dX6_mixesAll_4 : decode cX6_mixesAll 4 = .ok (.invokevirtual 184, 3) := by decide +kernel
theorem dX6_mixesAll_7 : decode cX6_mixesAll 7 = .ok (.if_icmp .gt 19, 3) := by decide +kernel
theorem dX6_mixesAll_10 : decode cX6_mixesAll 10 = .ok (.aload_n 0, 1) := by decide +kernel
theorem dX6_mixesAll_11 : decode cX6_mixesAll 11 = .ok (.aload_n 0, 1) := by decide +kernel
theorem dX6_mixesAll_12 : decode cX6_mixesAll 12 = .ok (.iconst 1, 1) := by decide +kernel
theorem dX6_mixesAll_13 : decode cX6_mixesAll 13 = .ok (.iload_n 1, 1) := by decide +kernel
theorem dX6_mixesAll_14 : decode cX6_mixesAll 14 = .ok (.invokevirtual 264, 3) := by decide +kernel
theorem dX6_mixesAll_17 : decode cX6_mixesAll 17 = .ok (.invokevirtual 267, 3) := by decide +kernel
theorem dX6_mixesAll_20 : decode cX6_mixesAll 20 = .ok (.iinc 1 1, 3) := by decide +kernel
theorem dX6_mixesAll_23 : decode cX6_mixesAll 23 = .ok (.goto (-21), 3) := by decide +kernel
theorem dX6_mixesAll_26 : decode cX6_mixesAll 26 = .ok (.iconst 1, 1) := by decide +kernel
theorem dX6_mixesAll_27 : decode cX6_mixesAll 27 = .ok (.istore_n 1, 1) := by decide +kernel
theorem dX6_mixesAll_28 : decode cX6_mixesAll 28 = .ok (.iload_n 1, 1) := by decide +kernel
theorem dX6_mixesAll_29 : decode cX6_mixesAll 29 = .ok (.aload_n 0, 1) := by decide +kernel
theorem dX6_mixesAll_30 : decode cX6_mixesAll 30 = .ok (.invokevirtual 123, 3) := by decide +kernel
theorem dX6_mixesAll_33 : decode cX6_mixesAll 33 = .ok (.if_icmp .gt 36, 3) := by decide +kernel
theorem dX6_mixesAll_36 : decode cX6_mixesAll 36 = .ok (.iconst 1, 1) := by decide +kernel
theorem dX6_mixesAll_37 : decode cX6_mixesAll 37 = .ok (.istore_n 2, 1) := by decide +kernel
theorem dX6_mixesAll_38 : decode cX6_mixesAll 38 = .ok (.iload_n 2, 1) := by decide +kernel
theorem dX6_mixesAll_39 : decode cX6_mixesAll 39 = .ok (.aload_n 0, 1) := by decide +kernel
theorem dX6_mixesAll_40 : decode cX6_mixesAll 40 = .ok (.invokevirtual 184, 3) := by decide +kernel
theorem dX6_mixesAll_43 : decode cX6_mixesAll 43 = .ok (.if_icmp .gt 20, 3) := by decide +kernel
theorem dX6_mixesAll_46 : decode cX6_mixesAll 46 = .ok (.aload_n 0, 1) := by decide +kernel
theorem dX6_mixesAll_47 : decode cX6_mixesAll 47 = .ok (.aload_n 0, 1) := by decide +kernel
theorem dX6_mixesAll_48 : decode cX6_mixesAll 48 = .ok (.iload_n 1, 1) := by decide +kernel
theorem dX6_mixesAll_49 : decode cX6_mixesAll 49 = .ok (.iload_n 2, 1) := by decide +kernel
theorem dX6_mixesAll_50 : decode cX6_mixesAll 50 = .ok (.invokevirtual 190, 3) := by decide +kernel
theorem dX6_mixesAll_53 : decode cX6_mixesAll 53 = .ok (.i2l, 1) := by decide +kernel
theorem dX6_mixesAll_54 : decode cX6_mixesAll 54 = .ok (.invokevirtual 260, 3) := by decide +kernel
theorem dX6_mixesAll_57 : decode cX6_mixesAll 57 = .ok (.iinc 2 1, 3) := by decide +kernel
theorem dX6_mixesAll_60 : decode cX6_mixesAll 60 = .ok (.goto (-22), 3) := by decide +kernel
theorem dX6_mixesAll_63 : decode cX6_mixesAll 63 = .ok (.iinc 1 1, 3) := by decide +kernel
theorem dX6_mixesAll_66 : decode cX6_mixesAll 66 = .ok (.goto (-38), 3) := by decide +kernel
theorem dX6_mixesAll_69 : decode cX6_mixesAll 69 = .ok (.iconst 0, 1) := by decide +kernel
theorem dX6_mixesAll_70 : decode cX6_mixesAll 70 = .ok (.istore_n 1, 1) := by decide +kernel
theorem dX6_mixesAll_71 : decode cX6_mixesAll 71 = .ok (.iload_n 1, 1) := by decide +kernel
theorem dX6_mixesAll_72 : decode cX6_mixesAll 72 = .ok (.iconst 3, 1) := by decide +kernel
theorem dX6_mixesAll_73 : decode cX6_mixesAll 73 = .ok (.if_icmp .ge 18, 3) := by decide +kernel
theorem dX6_mixesAll_76 : decode cX6_mixesAll 76 = .ok (.aload_n 0, 1) := by decide +kernel
theorem dX6_mixesAll_77 : decode cX6_mixesAll 77 = .ok (.aload_n 0, 1) := by decide +kernel
theorem dX6_mixesAll_78 : decode cX6_mixesAll 78 = .ok (.iload_n 1, 1) := by decide +kernel
theorem dX6_mixesAll_79 : decode cX6_mixesAll 79 = .ok (.invokevirtual 270, 3) := by decide +kernel
theorem dX6_mixesAll_82 : decode cX6_mixesAll 82 = .ok (.invokevirtual 267, 3) := by decide +kernel
theorem dX6_mixesAll_85 : decode cX6_mixesAll 85 = .ok (.iinc 1 1, 3) := by decide +kernel
theorem dX6_mixesAll_88 : decode cX6_mixesAll 88 = .ok (.goto (-17), 3) := by decide +kernel
theorem dX6_mixesAll_91 : decode cX6_mixesAll 91 = .ok (.aload_n 0, 1) := by decide +kernel
theorem dX6_mixesAll_92 : decode cX6_mixesAll 92 = .ok (.aload_n 0, 1) := by decide +kernel
theorem dX6_mixesAll_93 : decode cX6_mixesAll 93 = .ok (.invokevirtual 273, 3) := by decide +kernel
theorem dX6_mixesAll_96 : decode cX6_mixesAll 96 = .ok (.i2l, 1) := by decide +kernel
theorem dX6_mixesAll_97 : decode cX6_mixesAll 97 = .ok (.invokevirtual 260, 3) := by decide +kernel
theorem dX6_mixesAll_100 : decode cX6_mixesAll 100 = .ok (.iconst 0, 1) := by decide +kernel
theorem dX6_mixesAll_101 : decode cX6_mixesAll 101 = .ok (.istore_n 1, 1) := by decide +kernel
theorem dX6_mixesAll_102 : decode cX6_mixesAll 102 = .ok (.iload_n 1, 1) := by decide +kernel
theorem dX6_mixesAll_103 : decode cX6_mixesAll 103 = .ok (.aload_n 0, 1) := by decide +kernel
theorem dX6_mixesAll_104 : decode cX6_mixesAll 104 = .ok (.invokevirtual 184, 3) := by decide +kernel
theorem dX6_mixesAll_107 : decode cX6_mixesAll 107 = .ok (.if_icmp .gt 21, 3) := by decide +kernel
theorem dX6_mixesAll_110 : decode cX6_mixesAll 110 = .ok (.aload_n 0, 1) := by decide +kernel
theorem dX6_mixesAll_111 : decode cX6_mixesAll 111 = .ok (.aload_n 0, 1) := by decide +kernel
theorem dX6_mixesAll_112 : decode cX6_mixesAll 112 = .ok (.iconst 1, 1) := by decide +kernel
theorem dX6_mixesAll_113 : decode cX6_mixesAll 113 = .ok (.iload_n 1, 1) := by decide +kernel
theorem dX6_mixesAll_114 : decode cX6_mixesAll 114 = .ok (.iconst 5, 1) := by decide +kernel
theorem dX6_mixesAll_115 : decode cX6_mixesAll 115 = .ok (.iconst 5, 1) := by decide +kernel
theorem dX6_mixesAll_116 : decode cX6_mixesAll 116 = .ok (.invokevirtual 276, 3) := by decide +kernel
theorem dX6_mixesAll_119 : decode cX6_mixesAll 119 = .ok (.invokevirtual 267, 3) := by decide +kernel
theorem dX6_mixesAll_122 : decode cX6_mixesAll 122 = .ok (.iinc 1 1, 3) := by decide +kernel
theorem dX6_mixesAll_125 : decode cX6_mixesAll 125 = .ok (.goto (-23), 3) := by decide +kernel
theorem dX6_mixesAll_128 : decode cX6_mixesAll 128 = .ok (.iconst 1, 1) := by decide +kernel
theorem dX6_mixesAll_129 : decode cX6_mixesAll 129 = .ok (.istore_n 1, 1) := by decide +kernel
theorem dX6_mixesAll_130 : decode cX6_mixesAll 130 = .ok (.iload_n 1, 1) := by decide +kernel
theorem dX6_mixesAll_131 : decode cX6_mixesAll 131 = .ok (.aload_n 0, 1) := by decide +kernel
theorem dX6_mixesAll_132 : decode cX6_mixesAll 132 = .ok (.invokevirtual 123, 3) := by decide +kernel
theorem dX6_mixesAll_135 : decode cX6_mixesAll 135 = .ok (.if_icmp .gt 40, 3) := by decide +kernel
theorem dX6_mixesAll_138 : decode cX6_mixesAll 138 = .ok (.aload_n 0, 1) := by decide +kernel
theorem dX6_mixesAll_139 : decode cX6_mixesAll 139 = .ok (.aload_n 0, 1) := by decide +kernel
theorem dX6_mixesAll_140 : decode cX6_mixesAll 140 = .ok (.iload_n 1, 1) := by decide +kernel
theorem dX6_mixesAll_141 : decode cX6_mixesAll 141 = .ok (.aload_n 0, 1) := by decide +kernel
theorem dX6_mixesAll_142 : decode cX6_mixesAll 142 = .ok (.invokevirtual 184, 3) := by decide +kernel
theorem dX6_mixesAll_145 : decode cX6_mixesAll 145 = .ok (.iconst 0, 1) := by decide +kernel
theorem dX6_mixesAll_146 : decode cX6_mixesAll 146 = .ok (.iconst 4, 1) := by decide +kernel
theorem dX6_mixesAll_147 : decode cX6_mixesAll 147 = .ok (.invokevirtual 203, 3) := by decide +kernel
theorem dX6_mixesAll_150 : decode cX6_mixesAll 150 = .ok (.i2l, 1) := by decide +kernel
theorem dX6_mixesAll_151 : decode cX6_mixesAll 151 = .ok (.invokevirtual 260, 3) := by decide +kernel
theorem dX6_mixesAll_154 : decode cX6_mixesAll 154 = .ok (.aload_n 0, 1) := by decide +kernel
theorem dX6_mixesAll_155 : decode cX6_mixesAll 155 = .ok (.aload_n 0, 1) := by decide +kernel
theorem dX6_mixesAll_156 : decode cX6_mixesAll 156 = .ok (.iload_n 1, 1) := by decide +kernel
theorem dX6_mixesAll_157 : decode cX6_mixesAll 157 = .ok (.aload_n 0, 1) := by decide +kernel
theorem dX6_mixesAll_158 : decode cX6_mixesAll 158 = .ok (.invokevirtual 184, 3) := by decide +kernel
theorem dX6_mixesAll_161 : decode cX6_mixesAll 161 = .ok (.iconst 5, 1) := by decide +kernel
theorem dX6_mixesAll_162 : decode cX6_mixesAll 162 = .ok (.invokevirtual 209, 3) := by decide +kernel
theorem dX6_mixesAll_165 : decode cX6_mixesAll 165 = .ok (.i2l, 1) := by decide +kernel
theorem dX6_mixesAll_166 : decode cX6_mixesAll 166 = .ok (.invokevirtual 260, 3) := by decide +kernel
theorem dX6_mixesAll_169 : decode cX6_mixesAll 169 = .ok (.iinc 1 1, 3) := by decide +kernel
theorem dX6_mixesAll_172 : decode cX6_mixesAll 172 = .ok (.goto (-42), 3) := by decide +kernel
theorem dX6_mixesAll_175 : decode cX6_mixesAll 175 = .ok (.aload_n 0, 1) := by decide +kernel
theorem dX6_mixesAll_176 : decode cX6_mixesAll 176 = .ok (.aload_n 0, 1) := by decide +kernel
theorem dX6_mixesAll_177 : decode cX6_mixesAll 177 = .ok (.invokevirtual 279, 3) := by decide +kernel
theorem dX6_mixesAll_180 : decode cX6_mixesAll 180 = .ok (.i2l, 1) := by decide +kernel
theorem dX6_mixesAll_181 : decode cX6_mixesAll 181 = .ok (.invokevirtual 260, 3) := by decide +kernel
theorem dX6_mixesAll_184 : decode cX6_mixesAll 184 = .ok (.aload_n 0, 1) := by decide +kernel
theorem dX6_mixesAll_185 : decode cX6_mixesAll 185 = .ok (.aload_n 0, 1) := by decide +kernel
theorem dX6_mixesAll_186 : decode cX6_mixesAll 186 = .ok (.invokevirtual 282, 3) := by decide +kernel
theorem dX6_mixesAll_189 : decode cX6_mixesAll 189 = .ok (.invokevirtual 267, 3) := by decide +kernel
theorem dX6_mixesAll_192 : decode cX6_mixesAll 192 = .ok (.return_, 1) := by decide +kernel
theorem dX6_digest_0 : decode cX6_digest 0 = .ok (.aload_n 0, 1) := by decide +kernel
theorem dX6_digest_1 : decode cX6_digest 1 = .ok (.getfield 16, 3) := by decide +kernel
theorem dX6_digest_4 : decode cX6_digest 4 = .ok (.lstore_n 1, 1) := by decide +kernel
theorem dX6_digest_5 : decode cX6_digest 5 = .ok (.aload_n 0, 1) := by decide +kernel
theorem dX6_digest_6 : decode cX6_digest 6 = .ok (.ldc2_w 285, 3) := by decide +kernel
theorem dX6_digest_9 : decode cX6_digest 9 = .ok (.putfield 257, 3) := by decide +kernel
theorem dX6_digest_12 : decode cX6_digest 12 = .ok (.iconst 0, 1) := by decide +kernel
theorem dX6_digest_13 : decode cX6_digest 13 = .ok (.istore_n 3, 1) := by decide +kernel
theorem dX6_digest_14 : decode cX6_digest 14 = .ok (.iload_n 3, 1) := by decide +kernel
theorem dX6_digest_15 : decode cX6_digest 15 = .ok (.bipush 22, 2) := by decide +kernel
theorem dX6_digest_17 : decode cX6_digest 17 = .ok (.if_icmp .ge 20, 3) := by decide +kernel
theorem dX6_digest_20 : decode cX6_digest 20 = .ok (.aload_n 0, 1) := by decide +kernel
theorem dX6_digest_21 : decode cX6_digest 21 = .ok (.aload_n 0, 1) := by decide +kernel
theorem dX6_digest_22 : decode cX6_digest 22 = .ok (.getfield 7, 3) := by decide +kernel
theorem dX6_digest_25 : decode cX6_digest 25 = .ok (.iload_n 3, 1) := by decide +kernel
theorem dX6_digest_26 : decode cX6_digest 26 = .ok (.iaload, 1) := by decide +kernel
theorem dX6_digest_27 : decode cX6_digest 27 = .ok (.i2l, 1) := by decide +kernel
theorem dX6_digest_28 : decode cX6_digest 28 = .ok (.invokevirtual 260, 3) := by decide +kernel
theorem dX6_digest_31 : decode cX6_digest 31 = .ok (.iinc 3 1, 3) := by decide +kernel
theorem dX6_digest_34 : decode cX6_digest 34 = .ok (.goto (-20), 3) := by decide +kernel
theorem dX6_digest_37 : decode cX6_digest 37 = .ok (.aload_n 0, 1) := by decide +kernel
theorem dX6_digest_38 : decode cX6_digest 38 = .ok (.invokevirtual 287, 3) := by decide +kernel
theorem dX6_digest_41 : decode cX6_digest 41 = .ok (.iconst 0, 1) := by decide +kernel
theorem dX6_digest_42 : decode cX6_digest 42 = .ok (.istore_n 3, 1) := by decide +kernel
theorem dX6_digest_43 : decode cX6_digest 43 = .ok (.iload_n 3, 1) := by decide +kernel
theorem dX6_digest_44 : decode cX6_digest 44 = .ok (.iconst 4, 1) := by decide +kernel
theorem dX6_digest_45 : decode cX6_digest 45 = .ok (.if_icmp .ge 19, 3) := by decide +kernel
theorem dX6_digest_48 : decode cX6_digest 48 = .ok (.aload_n 0, 1) := by decide +kernel
theorem dX6_digest_49 : decode cX6_digest 49 = .ok (.aload_n 0, 1) := by decide +kernel
theorem dX6_digest_50 : decode cX6_digest 50 = .ok (.iload_n 3, 1) := by decide +kernel
theorem dX6_digest_51 : decode cX6_digest 51 = .ok (.invokevirtual 290, 3) := by decide +kernel
theorem dX6_digest_54 : decode cX6_digest 54 = .ok (.i2l, 1) := by decide +kernel
theorem dX6_digest_55 : decode cX6_digest 55 = .ok (.invokevirtual 260, 3) := by decide +kernel
theorem dX6_digest_58 : decode cX6_digest 58 = .ok (.iinc 3 1, 3) := by decide +kernel
theorem dX6_digest_61 : decode cX6_digest 61 = .ok (.goto (-18), 3) := by decide +kernel
theorem dX6_digest_64 : decode cX6_digest 64 = .ok (.aload_n 0, 1) := by decide +kernel
theorem dX6_digest_65 : decode cX6_digest 65 = .ok (.lload_n 1, 1) := by decide +kernel
theorem dX6_digest_66 : decode cX6_digest 66 = .ok (.putfield 16, 3) := by decide +kernel
theorem dX6_digest_69 : decode cX6_digest 69 = .ok (.aload_n 0, 1) := by decide +kernel
theorem dX6_digest_70 : decode cX6_digest 70 = .ok (.getfield 257, 3) := by decide +kernel
theorem dX6_digest_73 : decode cX6_digest 73 = .ok (.lreturn, 1) := by decide +kernel
